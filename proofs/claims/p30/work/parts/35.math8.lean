/-! ===== longs by their values, masks, derived points ===== -/
def zL (z : Int) : Int64 := Int64.ofInt z
theorem zL_add (a b : Int) : zL a + zL b = zL (a + b) := (Int64.ofInt_add a b).symm
theorem zL_sub (a b : Int) : zL a - zL b = zL (a - b) := (Int64.ofInt_sub a b).symm
theorem zL_mul (a b : Int) : zL a * zL b = zL (a * b) := (Int64.ofInt_mul a b).symm
theorem zL_toInt {z : Int} (h : -9223372036854775808 ≤ z) (h2 : z < 9223372036854775808) : (zL z).toInt = z := Int64.toInt_ofInt_of_le (by simpa using h) (by simpa using h2)
theorem zL_i2l {z : Int} (h : -2147483648 ≤ z) (h2 : z < 2147483648) : (zI z).toInt64 = zL z := Int64.toInt_inj.mp (by rw [Int32.toInt_toInt64, zI_toInt h h2, zL_toInt (by omega) (by omega)])
theorem zL_n2l {k : Nat} (h : k < 2147483648) : (nI k).toInt64 = zL (k : Int) := zL_i2l (z := (k : Int)) (by omega) (by omega)
theorem zL_l2i (z : Int) : (zL z).toInt32 = zI z := by
  unfold zL zI
  exact Int64.toInt32_ofInt
theorem zL_lt {a b : Int} (h1 : -9223372036854775808 ≤ a) (h2 : a < 9223372036854775808) (h3 : -9223372036854775808 ≤ b) (h4 : b < 9223372036854775808) : zL a < zL b ↔ a < b := by
  rw [Int64.lt_iff_toInt_lt, zL_toInt h1 h2, zL_toInt h3 h4]
theorem zL_le {a b : Int} (h1 : -9223372036854775808 ≤ a) (h2 : a < 9223372036854775808) (h3 : -9223372036854775808 ≤ b) (h4 : b < 9223372036854775808) : zL a ≤ zL b ↔ a ≤ b := by
  rw [Int64.le_iff_toInt_le, zL_toInt h1 h2, zL_toInt h3 h4]
theorem zL_eq {a b : Int} (h1 : -9223372036854775808 ≤ a) (h2 : a < 9223372036854775808) (h3 : -9223372036854775808 ≤ b) (h4 : b < 9223372036854775808) : zL a = zL b ↔ a = b := by
  rw [← Int64.toInt_inj, zL_toInt h1 h2, zL_toInt h3 h4]
theorem nI_or {a b : Nat} (ha : a < 2147483648) (hb : b < 2147483648) : nI a ||| nI b = nI (a ||| b) := by
  apply Int32.toBitVec_inj.mp
  apply BitVec.eq_of_toNat_eq
  have h1 : (nI a ||| nI b).toBitVec = (nI a).toBitVec ||| (nI b).toBitVec := rfl
  have h2 : a ||| b < 2 ^ 31 := Nat.or_lt_two_pow (by omega) (by omega)
  rw [h1, BitVec.toNat_or, pk_tn (by omega), pk_tn (by omega), pk_tn (by omega)]
def tbN (m k : Nat) : Nat := (m.testBit k).toNat
theorem tbN_1 {m k : Nat} : tbN m k = 1 ↔ m.testBit k = true := by unfold tbN; cases m.testBit k <;> decide
theorem tbN_le (m k : Nat) : tbN m k ≤ 1 := by unfold tbN; cases m.testBit k <;> decide
theorem z_tbN {m k : Nat} (hm : m < 2147483648) (hk : k < 31) : (nI m >>> (nI k &&& 31)) &&& nI 1 = nI (tbN m k) := by
  have h := z_tb (a := (m : Int)) (s := (k : Int)) (by omega) (by omega) (by omega) (by omega)
  rw [zI_n, zI_n] at h
  rw [h, ← zI_n]
  congr 1
  unfold tb tbN
  rw [Int.toNat_natCast, Nat.testBit_eq_decide_div_mod_eq]
  have h2 : ((m : Int) / 2 ^ k) % 2 = ((m / 2 ^ k % 2 : Nat) : Int) := by
    rw [Int.natCast_emod, Int.natCast_ediv, Int.natCast_pow]
    rfl
  rw [h2]
  have h3 : m / 2 ^ k % 2 = 0 ∨ m / 2 ^ k % 2 = 1 := by omega
  rcases h3 with h3 | h3 <;> rw [h3] <;> rfl
def om (o : Int) : Nat := if 100 ≤ o then 2 ^ (o - 100).toNat else 0
theorem om_cases {o : Int} (h : 100 ≤ o) (h2 : o ≤ 107) : o = 100 ∨ o = 101 ∨ o = 102 ∨ o = 103 ∨ o = 104 ∨ o = 105 ∨ o = 106 ∨ o = 107 := by omega
theorem shl_om {o : Int} (h : 100 ≤ o) (h2 : o ≤ 107) : nI 1 <<< (zI (o - 100) &&& 31) = nI (om o) := by
  rcases om_cases h h2 with rfl | rfl | rfl | rfl | rfl | rfl | rfl | rfl <;> decide +kernel
theorem om_0 {o : Int} (h : o < 100) : om o = 0 := by unfold om; rw [if_neg (by omega)]
theorem om_lt {o : Int} (h2 : o ≤ 107) : om o < 256 := by
  by_cases h : 100 ≤ o
  · rcases om_cases h h2 with rfl | rfl | rfl | rfl | rfl | rfl | rfl | rfl <;> decide +kernel
  · rw [om_0 (by omega)]; decide
theorem or_256 {a b : Nat} (ha : a < 256) (hb : b < 256) : a ||| b < 256 := Nat.or_lt_two_pow (n := 8) ha hb
def mCT1 (G : Nat → Nat → Int) (m k : Nat) : Nat := if m.testBit k = true ∧ G 43 k ≠ -1 then m ||| om (G 44 k) ||| om (G 45 k) else m
def mCTk (G : Nat → Nat → Int) (m : Nat) : Nat → Nat
  | 0 => m
  | k + 1 => mCT1 G (mCTk G m k) k
def mCTr (G : Nat → Nat → Int) (m : Nat) : Nat → Nat
  | 0 => m
  | r + 1 => mCTk G (mCTr G m r) 8
def mReach (G : Nat → Nat → Int) (a b : Int) : Nat := mCTr G (om a ||| om b) 8
abbrev isOp (o : Int) : Prop := (0 ≤ o ∧ o ≤ 11) ∨ (100 ≤ o ∧ o ≤ 107)
abbrev mDvOk (G : Nat → Nat → Int) : Prop := ∀ i, (G 43 i = -1 ∨ (0 ≤ G 43 i ∧ G 43 i ≤ 4)) ∧ isOp (G 44 i) ∧ isOp (G 45 i)
theorem mCTk_lt {G : Nat → Nat → Int} (h : mDvOk G) {m : Nat} (hm : m < 256) (k : Nat) : mCTk G m k < 256 := by
  induction k with
  | zero => exact hm
  | succ k ih =>
    simp only [mCTk, mCT1]
    split
    · have := h k
      exact or_256 (or_256 ih (om_lt (by omega))) (om_lt (by omega))
    · exact ih
theorem mCTr_lt {G : Nat → Nat → Int} (h : mDvOk G) {m : Nat} (hm : m < 256) (r : Nat) : mCTr G m r < 256 := by
  induction r with
  | zero => exact hm
  | succ r ih => exact mCTk_lt h ih 8
abbrev mHas (G : Nat → Nat → Int) (o : Int) : Prop := (100 ≤ o ∧ G 46 (o - 100).toNat = 1) ∨ (o < 100 ∧ o < G 28 0 ∧ 0 < G 41 o.toNat)
def mVo (G : Nat → Nat → Int) (o : Int) : Int := if 100 ≤ o then G 47 (o - 100).toNat else G 39 o.toNat
def mTo (G : Nat → Nat → Int) (o : Int) : Int := if 100 ≤ o then G 48 (o - 100).toNat else G 40 o.toNat
def mOp (op a b : Int) : Int := if op = 0 then a + b else if op = 1 then a - b else if op = 2 then a * b else if op = 3 then (if b < a then a else b) else (if b < a then b else a)
def mClamp (x : Int) : Int := if 1000000 < x then 1000000 else if x < -1000000 then -1000000 else x
def mMade (op a b : Int) : Int := mClamp (mOp op a b)
theorem mMade_r (op a b : Int) : -1000000 ≤ mMade op a b ∧ mMade op a b ≤ 1000000 := by
  unfold mMade mClamp
  (repeat' split) <;> omega

def mDer1 (G : Nat → Nat → Int) (k : Nat) : Nat → Nat → Int :=
  if G 43 k ≠ -1 ∧ mHas G (G 44 k) ∧ mHas G (G 45 k) then
    gu (gu (gu G 46 k 1) 47 k (mMade (G 43 k) (mVo G (G 44 k)) (mVo G (G 45 k)))) 48 k (if mTo G (G 45 k) < mTo G (G 44 k) then mTo G (G 44 k) else mTo G (G 45 k))
  else G
def mDerK (G : Nat → Nat → Int) : Nat → Nat → Nat → Int
  | 0 => G
  | k + 1 => mDer1 (mDerK G k) k
def mDerR (G : Nat → Nat → Int) : Nat → Nat → Nat → Int
  | 0 => G
  | r + 1 => mDerK (mDerR G r) 8
def mClr (G : Nat → Nat → Int) (q : Nat) : Nat → Nat → Int := gr G 46 (fun i => if i < q then 0 else G 46 i)
def mDers (G : Nat → Nat → Int) : Nat → Nat → Int := mDerR (mClr G 8) 8
/-- what the derived points' numbers are like -/
abbrev mDrOk (G : Nat → Nat → Int) : Prop := ∀ i, (G 46 i = 0 ∨ G 46 i = 1) ∧ (-1000000 ≤ G 47 i ∧ G 47 i ≤ 1000000) ∧ (0 ≤ G 48 i ∧ G 48 i ≤ 1000000000) ∧ (-1000000 ≤ G 39 i ∧ G 39 i ≤ 1000000) ∧ (0 ≤ G 40 i ∧ G 40 i ≤ 1000000000)
theorem mVo_r {G : Nat → Nat → Int} (h : mDrOk G) (o : Int) : -1000000 ≤ mVo G o ∧ mVo G o ≤ 1000000 := by
  unfold mVo
  split
  · exact (h _).2.1
  · exact (h _).2.2.2.1
theorem mTo_r {G : Nat → Nat → Int} (h : mDrOk G) (o : Int) : 0 ≤ mTo G o ∧ mTo G o ≤ 1000000000 := by
  unfold mTo
  split
  · exact (h _).2.2.1
  · exact (h _).2.2.2.2
theorem mDer1_k (G : Nat → Nat → Int) (k : Nat) {q : Nat} (j : Nat) (h : q < 46 ∨ 48 < q) : mDer1 G k q j = G q j := by
  unfold mDer1
  split
  · rw [gu_ne _ _ _ (by omega), gu_ne _ _ _ (by omega), gu_ne _ _ _ (by omega)]
  · rfl
theorem mDer1_ok {G : Nat → Nat → Int} (h : mDrOk G) (k : Nat) : mDrOk (mDer1 G k) := by
  intro i
  have hi := h i
  have h44 := mTo_r h (G 44 k)
  have h45 := mTo_r h (G 45 k)
  have hm := mMade_r (G 43 k) (mVo G (G 44 k)) (mVo G (G 45 k))
  rw [mDer1_k G k i (q := 39) (by omega), mDer1_k G k i (q := 40) (by omega)]
  unfold mDer1
  split
  · simp only [gu_at]
    refine ⟨?_, ?_, ?_, hi.2.2.2.1, hi.2.2.2.2⟩
    · rw [if_neg (by omega), if_neg (by omega)]; split <;> omega
    · rw [if_neg (by omega)]; split <;> first | omega | (rw [if_neg (by omega)]; omega)
    · split
      · split <;> omega
      · rw [if_neg (by omega), if_neg (by omega)]; omega
  · exact hi
theorem mDerK_ok {G : Nat → Nat → Int} (h : mDrOk G) (k : Nat) : mDrOk (mDerK G k) := by
  induction k with
  | zero => exact h
  | succ k ih => exact mDer1_ok ih k
theorem mDerK_k (G : Nat → Nat → Int) (k : Nat) {q : Nat} (j : Nat) (h : q < 46 ∨ 48 < q) : mDerK G k q j = G q j := by
  induction k with
  | zero => rfl
  | succ k ih => exact (mDer1_k _ k j h).trans ih
theorem mDerR_ok {G : Nat → Nat → Int} (h : mDrOk G) (r : Nat) : mDrOk (mDerR G r) := by
  induction r with
  | zero => exact h
  | succ r ih => exact mDerK_ok ih 8
theorem mDerR_k (G : Nat → Nat → Int) (r : Nat) {q : Nat} (j : Nat) (h : q < 46 ∨ 48 < q) : mDerR G r q j = G q j := by
  induction r with
  | zero => rfl
  | succ r ih => exact (mDerK_k _ 8 j h).trans ih
theorem mClr_ok {G : Nat → Nat → Int} (h : mDrOk G) (q : Nat) : mDrOk (mClr G q) := by
  intro i
  have hi := h i
  simp only [mClr, gr_at]
  refine ⟨?_, hi.2⟩
  simp only [↓reduceIte]
  split <;> omega
theorem mClr_k (G : Nat → Nat → Int) (q : Nat) {k : Nat} (j : Nat) (h : k ≠ 46) : mClr G q k j = G k j := by
  simp only [mClr, gr_at]
  rw [if_neg h]
theorem z_mul6 {a b : Int} (ha : -1000000 ≤ a ∧ a ≤ 1000000) (hb : -1000000 ≤ b ∧ b ≤ 1000000) : -1000000000000 ≤ a * b ∧ a * b ≤ 1000000000000 := by
  have h1 : (a * b).natAbs ≤ 1000000 * 1000000 := by
    rw [Int.natAbs_mul]
    exact Nat.mul_le_mul (by omega) (by omega)
  omega
theorem mDer1_t {G : Nat → Nat → Int} {k : Nat} {o a b x : Int} (h43 : G 43 k = o) (h44 : G 44 k = a) (h45 : G 45 k = b) (ho : o ≠ -1) (ha : mHas G a) (hb : mHas G b) (hx : x = if mTo G b < mTo G a then mTo G a else mTo G b) : mDer1 G k = gu (gu (gu G 46 k 1) 47 k (mMade o (mVo G a) (mVo G b))) 48 k x := by
  subst h43; subst h44; subst h45; subst hx
  exact if_pos ⟨ho, ha, hb⟩
theorem mDer1_f {G : Nat → Nat → Int} {k : Nat} {o a b : Int} (h43 : G 43 k = o) (h44 : G 44 k = a) (h45 : G 45 k = b) (h : o = -1 ∨ ¬ mHas G a ∨ ¬ mHas G b) : mDer1 G k = G := by
  subst h43; subst h44; subst h45
  exact if_neg (fun z => h.elim (fun q => z.1 q) (fun q => q.elim (fun q => q z.2.1) (fun q => q z.2.2)))
theorem mClr_s (G : Nat → Nat → Int) (q j : Nat) : (if j = q then 0 else if j < q then 0 else G 46 j) = if j < q + 1 then 0 else G 46 j := by
  by_cases h9 : j = q
  · rw [if_pos h9, if_pos (by omega)]
  · by_cases h8 : j < q
    · rw [if_neg h9, if_pos h8, if_pos (by omega)]
    · rw [if_neg h9, if_neg h8, if_neg (by omega)]
