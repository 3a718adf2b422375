/-! ===== the class's frames' used bits; bits counted ===== -/
theorem ln_sub {x y : Int64} (h : lnat y ≤ lnat x) : lnat (x - y) = lnat x - lnat y := by
  have h1 : (x - y).toBitVec = x.toBitVec - y.toBitVec := rfl
  have h2 := lnat_lt x
  have h3 := lnat_lt y
  unfold lnat at *
  rw [h1, BitVec.toNat_sub]
  omega
theorem ln_add {x y : Int64} (h : lnat x + lnat y < 2 ^ 64) : lnat (x + y) = lnat x + lnat y := by
  have h1 : (x + y).toBitVec = x.toBitVec + y.toBitVec := rfl
  unfold lnat at *
  rw [h1, BitVec.toNat_add]
  omega
theorem ln_eq0 {x : Int64} : x = 0 ↔ ∀ i, i < 64 → (lnat x).testBit i = false := by
  constructor
  · rintro rfl i _
    have : lnat 0 = 0 := by decide
    rw [this, Nat.zero_testBit]
  · intro h
    refine ln_ext fun i hi => ?_
    have : lnat 0 = 0 := by decide
    rw [h i hi, this, Nat.zero_testBit]
def gBt1 (o w : Nat) : Int64 := gshl (gshl 1 (nI w) - 1) (nI o)
def gBt (o w t : Nat) : Int64 := if t = 0 then gBt1 o w else gBt1 o w ||| gshl (gBt1 o w) (nI 24)
theorem ln_bt1 {o w : Nat} (hw : w ≤ 12) (h : o + w ≤ 48) : lnat (gBt1 o w) = (2 ^ w - 1) * 2 ^ o := by
  unfold gBt1
  have h1 : lnat 1 = 1 := by decide
  have h2 : lnat (gshl 1 (nI w)) = 2 ^ w := by
    rw [ln_shl _ (by omega), h1, Nat.one_mul, Nat.mod_eq_of_lt (Nat.pow_lt_pow_right (by decide) (by omega))]
  have h3 : 1 ≤ 2 ^ w := Nat.one_le_two_pow
  have h4 : lnat (gshl 1 (nI w) - 1) = 2 ^ w - 1 := by rw [ln_sub (by rw [h1, h2]; exact h3), h1, h2]
  rw [ln_shl _ (by omega), h4, Nat.mod_eq_of_lt]
  have h5 : (2 ^ w - 1) * 2 ^ o < 2 ^ w * 2 ^ o := Nat.mul_lt_mul_of_pos_right (by omega) (Nat.two_pow_pos o)
  rw [← Nat.pow_add] at h5
  exact Nat.lt_of_lt_of_le h5 (Nat.pow_le_pow_right (by decide) (by omega))
theorem tb_bt1 {o w : Nat} (hw : w ≤ 12) (h : o + w ≤ 48) (i : Nat) : (lnat (gBt1 o w)).testBit i = true ↔ o ≤ i ∧ i < o + w := by
  rw [ln_bt1 hw h, ← Nat.shiftLeft_eq, Nat.testBit_shiftLeft, Nat.testBit_two_pow_sub_one]
  simp only [Bool.and_eq_true, decide_eq_true_eq]
  omega
theorem tb_bt {o w t : Nat} (hw : w ≤ 12) (h : o + w ≤ 48) (ht : t = 0 ∨ (t = 1 ∧ o + w ≤ 24)) (i : Nat) : (lnat (gBt o w t)).testBit i = true ↔ (o ≤ i ∧ i < o + w) ∨ (t = 1 ∧ 24 + o ≤ i ∧ i < 24 + o + w) := by
  rcases ht with rfl | ⟨rfl, ht⟩
  · unfold gBt
    rw [if_pos rfl, tb_bt1 hw h]
    omega
  · unfold gBt
    rw [if_neg (by decide), ln_or, Nat.testBit_or, Bool.or_eq_true, tb_bt1 hw h, ln_shl _ (by decide), ln_bt1 hw h]
    have h5 : (2 ^ w - 1) * 2 ^ o * 2 ^ 24 % 2 ^ 64 = (2 ^ w - 1) * 2 ^ (24 + o) := by
      rw [Nat.mul_assoc, ← Nat.pow_add, Nat.add_comm o 24, Nat.mod_eq_of_lt]
      have h3 : 1 ≤ 2 ^ w := Nat.one_le_two_pow
      have h5 : (2 ^ w - 1) * 2 ^ (24 + o) < 2 ^ w * 2 ^ (24 + o) := Nat.mul_lt_mul_of_pos_right (by omega) (Nat.two_pow_pos _)
      rw [← Nat.pow_add] at h5
      exact Nat.lt_of_lt_of_le h5 (Nat.pow_le_pow_right (by decide) (by omega))
    rw [h5, ← Nat.shiftLeft_eq, Nat.testBit_shiftLeft, Nat.testBit_two_pow_sub_one]
    clear h5
    simp only [Bool.and_eq_true, decide_eq_true_eq, true_and]
    constructor
    · rintro (h6 | h6)
      · exact Or.inl h6
      · exact Or.inr (by omega)
    · rintro (h6 | h6)
      · exact Or.inl h6
      · exact Or.inr (by omega)
/-- the class's used bits are those that have a user -/
def UsR (J : Nat → Nat → Int64) (G : Nat → Nat → Int) : Prop := ∀ r : Nat, r < 4 → ∀ i : Nat, ((lnat (J 3 r)).testBit i = true ↔ i < 48 ∧ mUser G (r : Int) (i : Int) (G 28 0).toNat ≠ -1)
def gFreeQ (J : Nat → Nat → Int64) (b : Int64) (pe ph : Int) : Prop := ∀ r : Nat, r < 4 → (r : Int) % pe = ph → J 3 r &&& b = 0
theorem gFreeQ_iff {J : Nat → Nat → Int64} {G : Nat → Nat → Int} (hU : UsR J G) {o w t : Nat} {pe ph : Int} (hw1 : 1 ≤ w) (hw : w ≤ 12) (h : o + w ≤ 48) (ht : t = 0 ∨ (t = 1 ∧ o + w ≤ 24)) (hpe : pe = 1 ∨ pe = 2 ∨ pe = 4) (hph : 0 ≤ ph ∧ ph < pe) : gFreeQ J (gBt o w t) pe ph ↔ mFree G (o : Int) (w : Int) ph pe ((t : Int) + 1) := by
  constructor
  · intro hq c hc1 hc2 hc3 j hj
    have hc4 : c % pe = ph := by rcases hpe with rfl | rfl | rfl <;> omega
    have h1 := hq c.toNat (by omega) (by rw [Int.toNat_of_nonneg (by omega)]; exact hc4)
    rw [ln_eq0] at h1
    have key : ∀ i : Nat, (lnat (gBt o w t)).testBit i = true → i < 48 → mUser G c (i : Int) (G 28 0).toNat = -1 := by
      intro i hi hi2
      have h2 := h1 i (by omega)
      rw [ln_and, Nat.testBit_and, hi, Bool.and_true] at h2
      have h3 := (hU c.toNat (by omega) i)
      rw [h2, Int.toNat_of_nonneg (by omega)] at h3
      apply Classical.byContradiction
      intro h4
      exact absurd (h3.mpr ⟨hi2, h4⟩) (by decide)
    constructor
    · have h5 := key (o + j) ((tb_bt hw h ht _).mpr (Or.inl (by omega))) (by omega)
      have h6 : ((o + j : Nat) : Int) = (o : Int) + (j : Int) := by omega
      rwa [h6] at h5
    · rcases ht with rfl | ⟨rfl, ht⟩
      · left; rfl
      · right
        have h5 := key (24 + o + j) ((tb_bt hw h (Or.inr ⟨rfl, ht⟩) _).mpr (Or.inr (by omega))) (by omega)
        have h6 : ((24 + o + j : Nat) : Int) = 24 + (o : Int) + (j : Int) := by omega
        rwa [h6] at h5
  · intro hf r hr hr2
    rw [ln_eq0]
    intro i hi
    rw [ln_and, Nat.testBit_and]
    cases hb : (lnat (gBt o w t)).testBit i with
    | false => exact Bool.and_false _
    | true =>
      rw [Bool.and_true]
      cases hb2 : (lnat (J 3 r)).testBit i with
      | false => rfl
      | true =>
        exfalso
        obtain ⟨h1, h2⟩ := (hU r hr i).mp hb2
        have hr3 : ph ≤ (r : Int) ∧ ((r : Int) - ph) % pe = 0 := by rcases hpe with rfl | rfl | rfl <;> omega
        rcases (tb_bt hw h ht i).mp hb with h3 | ⟨rfl, h3⟩
        · have h4 := (hf (r : Int) hr3.1 (by omega) hr3.2 (i - o) (by omega)).1
          have h6 : (o : Int) + ((i - o : Nat) : Int) = (i : Int) := by omega
          rw [h6] at h4
          exact h2 h4
        · have h4 := (hf (r : Int) hr3.1 (by omega) hr3.2 (i - 24 - o) (by omega)).2
          have h6 : 24 + (o : Int) + ((i - 24 - o : Nat) : Int) = (i : Int) := by omega
          rw [h6] at h4
          rcases h4 with h4 | h4
          · exact absurd h4 (by decide)
          · exact h2 h4
/-- the bits of a number, counted -/
def nCnt (x : Nat) : Nat → Nat
  | 0 => 0
  | k + 1 => nCnt x k + (if x.testBit k then 1 else 0)
theorem nCnt_le (x k : Nat) : nCnt x k ≤ k := by
  induction k with
  | zero => exact Nat.le_refl _
  | succ k ih => simp only [nCnt]; split <;> omega
theorem nCnt_cat {b y k : Nat} (hb : b < 256) : nCnt (b + 256 * y) (8 + k) = nCnt b 8 + nCnt y k := by
  have tl : ∀ i, (b + 256 * y).testBit i = if i < 8 then b.testBit i else y.testBit (i - 8) := by
    intro i
    rw [Nat.add_comm, show 256 * y = 2 ^ 8 * y from rfl, Nat.testBit_two_pow_mul_add y (show b < 2 ^ 8 from hb)]
  induction k with
  | zero =>
    have : ∀ k, k ≤ 8 → nCnt (b + 256 * y) k = nCnt b k := by
      intro k hk
      induction k with
      | zero => rfl
      | succ k ih =>
        have e9 : (b + 256 * y).testBit k = b.testBit k := by rw [tl, if_pos (by omega)]
        simp only [nCnt]
        rw [ih (by omega), e9]
    rw [this 8 (Nat.le_refl _)]; rfl
  | succ k ih =>
    have e8 : nCnt (b + 256 * y) (8 + (k + 1)) = nCnt (b + 256 * y) (8 + k) + (if (b + 256 * y).testBit (8 + k) then 1 else 0) := rfl
    have e9 : (b + 256 * y).testBit (8 + k) = y.testBit k := by
      rw [tl, if_neg (by omega)]
      congr 1
      omega
    rw [e8, ih, e9]
    exact Nat.add_assoc _ _ _
def pM (c : Nat) : Nat → Nat
  | 0 => 0
  | k + 1 => c + 256 * pM c k
theorem and_cat {b c y m : Nat} (hb : b < 256) (hc : c < 256) : (b + 256 * y) &&& (c + 256 * m) = (b &&& c) + 256 * (y &&& m) := by
  apply Nat.eq_of_testBit_eq
  intro i
  have h1 : b &&& c < 2 ^ 8 := Nat.and_lt_two_pow _ (show c < 2 ^ 8 from hc)
  rw [Nat.testBit_and, Nat.add_comm b, Nat.add_comm c, Nat.add_comm (b &&& c), show 256 = 2 ^ 8 from rfl, Nat.testBit_two_pow_mul_add _ (show b < 2 ^ 8 from hb), Nat.testBit_two_pow_mul_add _ (show c < 2 ^ 8 from hc), Nat.testBit_two_pow_mul_add _ h1]
  split
  · rw [Nat.testBit_and]
  · rw [Nat.testBit_and]
def p1 (k x : Nat) : Nat := x - ((x / 2) &&& pM 0x55 k)
def p2 (k x : Nat) : Nat := (x &&& pM 0x33 k) + ((x / 4) &&& pM 0x33 k)
def p3 (k x : Nat) : Nat := (x + x / 16) &&& pM 0x0f k
theorem and_le_self (a b : Nat) : a &&& b ≤ a := Nat.and_le_left
theorem p1_cat {b y k : Nat} (hb : b < 256) : p1 (k + 1) (b + 256 * y) = p1 1 b + 256 * p1 k y := by
  unfold p1
  have e : (b + 256 * y) / 2 = (b / 2 + 128 * (y % 2)) + 256 * (y / 2) := by omega
  have f : ∀ b, b < 256 → ∀ q, q < 2 → (b / 2 + 128 * q) &&& 0x55 = (b / 2 &&& 0x55) := by decide +kernel
  have h1 : pM 85 (k + 1) = 85 + 256 * pM 85 k := rfl
  have h2 : pM 85 1 = 85 := rfl
  rw [e, h1, h2, and_cat (by omega) (by decide), f b hb _ (Nat.mod_lt _ (by decide))]
  have h3 : b / 2 &&& 85 ≤ b / 2 := Nat.and_le_left
  have h4 : y / 2 &&& pM 85 k ≤ y / 2 := Nat.and_le_left
  omega
theorem p2_cat {b y k : Nat} (hb : b < 256) : p2 (k + 1) (b + 256 * y) = p2 1 b + 256 * p2 k y := by
  unfold p2
  have e : (b + 256 * y) / 4 = (b / 4 + 64 * (y % 4)) + 256 * (y / 4) := by omega
  have f : ∀ b, b < 256 → ∀ q, q < 4 → (b / 4 + 64 * q) &&& 0x33 = (b / 4 &&& 0x33) := by decide +kernel
  have h1 : pM 51 (k + 1) = 51 + 256 * pM 51 k := rfl
  have h2 : pM 51 1 = 51 := rfl
  rw [e, h1, h2, and_cat hb (by decide), and_cat (by omega) (by decide), f b hb _ (Nat.mod_lt _ (by decide))]
  omega
theorem p3_cat {b y k : Nat} (hb : b < 256) (hb2 : b + b / 16 + 16 * (y % 16) < 256) : p3 (k + 1) (b + 256 * y) = p3 1 b + 256 * p3 k y := by
  unfold p3
  have e : b + 256 * y + (b + 256 * y) / 16 = (b + b / 16 + 16 * (y % 16)) + 256 * (y + y / 16) := by omega
  have f : ∀ b, b < 256 → ∀ q, q < 16 → b + b / 16 + 16 * q < 256 → (b + b / 16 + 16 * q) &&& 0x0f = ((b + b / 16) &&& 0x0f) := by decide +kernel
  have h1 : pM 15 (k + 1) = 15 + 256 * pM 15 k := rfl
  have h2 : pM 15 1 = 15 := rfl
  rw [e, h1, h2, and_cat hb2 (by decide), f b hb _ (Nat.mod_lt _ (by decide)) hb2]
/-- the bytes, each its own count -/
def nByt (x : Nat) : Nat → Nat
  | 0 => 0
  | k + 1 => nCnt (x % 256) 8 + 256 * nByt (x / 256) k
theorem p2_mod (k x : Nat) (hx : x < 256 ^ k) : p2 k (p1 k x) % 16 ≤ 4 := by
  cases k with
  | zero => simp [p2, pM]
  | succ k =>
    have h1 : p1 (k + 1) x = p1 1 (x % 256) + 256 * p1 k (x / 256) := by
      have h : x = x % 256 + 256 * (x / 256) := by omega
      conv => lhs; rw [h]
      exact p1_cat (Nat.mod_lt _ (by decide))
    have f : ∀ b, b < 256 → p1 1 b < 256 ∧ p2 1 (p1 1 b) % 16 ≤ 4 := by decide +kernel
    obtain ⟨f1, f2⟩ := f (x % 256) (Nat.mod_lt _ (by decide))
    rw [h1, p2_cat f1]
    omega
theorem p_all (k x : Nat) (hx : x < 256 ^ k) : p3 k (p2 k (p1 k x)) = nByt x k := by
  induction k generalizing x with
  | zero => simp [p3, pM, nByt]
  | succ k ih =>
    have hy : x / 256 < 256 ^ k := by
      rw [Nat.pow_succ] at hx
      exact Nat.div_lt_of_lt_mul (by rw [Nat.mul_comm]; exact hx)
    have h : x = x % 256 + 256 * (x / 256) := by omega
    have h1 : p1 (k + 1) x = p1 1 (x % 256) + 256 * p1 k (x / 256) := by
      conv => lhs; rw [h]
      exact p1_cat (Nat.mod_lt _ (by decide))
    have f : ∀ b, b < 256 → p1 1 b < 256 ∧ p2 1 (p1 1 b) < 256 ∧ p2 1 (p1 1 b) + p2 1 (p1 1 b) / 16 ≤ 191 ∧ p3 1 (p2 1 (p1 1 b)) = nCnt b 8 := by decide +kernel
    obtain ⟨f1, f2, f3, f4⟩ := f (x % 256) (Nat.mod_lt _ (by decide))
    have h2 := p2_mod k (x / 256) hy
    rw [h1, p2_cat f1, p3_cat f2 (by omega), f4, ih _ hy]
    rfl
theorem nCnt_bytes (x : Nat) (k : Nat) : nCnt x (8 * (k + 1)) = nCnt (x % 256) 8 + nCnt (x / 256) (8 * k) := by
  have h : x = x % 256 + 256 * (x / 256) := by omega
  have := nCnt_cat (b := x % 256) (y := x / 256) (k := 8 * k) (Nat.mod_lt _ (by decide))
  rw [← h] at this
  rw [show 8 * (k + 1) = 8 + 8 * k from by omega, this]
theorem nByt_sum {x : Nat} : (fun w => (fun a => (fun b => (b + b / 2 ^ 32) % 128) (a + a / 2 ^ 16)) (w + w / 2 ^ 8)) (nByt x 8) = nCnt x 64 := by
  have h := nCnt_bytes
  have e : nCnt x 64 = nCnt (x % 256) 8 + (nCnt (x / 256 % 256) 8 + (nCnt (x / 256 / 256 % 256) 8 + (nCnt (x / 256 / 256 / 256 % 256) 8 + (nCnt (x / 256 / 256 / 256 / 256 % 256) 8 + (nCnt (x / 256 / 256 / 256 / 256 / 256 % 256) 8 + (nCnt (x / 256 / 256 / 256 / 256 / 256 / 256 % 256) 8 + (nCnt (x / 256 / 256 / 256 / 256 / 256 / 256 / 256 % 256) 8 + 0))))))) := by
    rw [show 64 = 8 * (7 + 1) from rfl, h x 7, show 8 * 7 = 8 * (6 + 1) from rfl, h (x / 256) 6, show 8 * 6 = 8 * (5 + 1) from rfl, h (x / 256 / 256) 5, show 8 * 5 = 8 * (4 + 1) from rfl, h (x / 256 / 256 / 256) 4, show 8 * 4 = 8 * (3 + 1) from rfl, h (x / 256 / 256 / 256 / 256) 3, show 8 * 3 = 8 * (2 + 1) from rfl, h (x / 256 / 256 / 256 / 256 / 256) 2, show 8 * 2 = 8 * (1 + 1) from rfl, h (x / 256 / 256 / 256 / 256 / 256 / 256) 1, show 8 * 1 = 8 * (0 + 1) from rfl, h (x / 256 / 256 / 256 / 256 / 256 / 256 / 256) 0]
    rfl
  rw [e]
  simp only [nByt]
  have g0 := nCnt_le (x % 256) 8
  have g1 := nCnt_le (x / 256 % 256) 8
  have g2 := nCnt_le (x / 256 / 256 % 256) 8
  have g3 := nCnt_le (x / 256 / 256 / 256 % 256) 8
  have g4 := nCnt_le (x / 256 / 256 / 256 / 256 % 256) 8
  have g5 := nCnt_le (x / 256 / 256 / 256 / 256 / 256 % 256) 8
  have g6 := nCnt_le (x / 256 / 256 / 256 / 256 / 256 / 256 % 256) 8
  have g7 := nCnt_le (x / 256 / 256 / 256 / 256 / 256 / 256 / 256 % 256) 8
  generalize nCnt (x % 256) 8 = a0 at *
  generalize nCnt (x / 256 % 256) 8 = a1 at *
  generalize nCnt (x / 256 / 256 % 256) 8 = a2 at *
  generalize nCnt (x / 256 / 256 / 256 % 256) 8 = a3 at *
  generalize nCnt (x / 256 / 256 / 256 / 256 % 256) 8 = a4 at *
  generalize nCnt (x / 256 / 256 / 256 / 256 / 256 % 256) 8 = a5 at *
  generalize nCnt (x / 256 / 256 / 256 / 256 / 256 / 256 % 256) 8 = a6 at *
  generalize nCnt (x / 256 / 256 / 256 / 256 / 256 / 256 / 256 % 256) 8 = a7 at *
  have q0 : a0 + 256 * (a1 + 256 * (a2 + 256 * (a3 + 256 * (a4 + 256 * (a5 + 256 * (a6 + 256 * (a7 + 256 * 0))))))) = 1 * a0 + 256 * a1 + 65536 * a2 + 16777216 * a3 + 4294967296 * a4 + 1099511627776 * a5 + 281474976710656 * a6 + 72057594037927936 * a7 := by omega
  rw [q0]
  have q1 : (1 * a0 + 256 * a1 + 65536 * a2 + 16777216 * a3 + 4294967296 * a4 + 1099511627776 * a5 + 281474976710656 * a6 + 72057594037927936 * a7) / 2 ^ 8 = 1 * a1 + 256 * a2 + 65536 * a3 + 16777216 * a4 + 4294967296 * a5 + 1099511627776 * a6 + 281474976710656 * a7 := by omega
  rw [q1]
  have q2 : 1 * a0 + 256 * a1 + 65536 * a2 + 16777216 * a3 + 4294967296 * a4 + 1099511627776 * a5 + 281474976710656 * a6 + 72057594037927936 * a7 + (1 * a1 + 256 * a2 + 65536 * a3 + 16777216 * a4 + 4294967296 * a5 + 1099511627776 * a6 + 281474976710656 * a7) = 1 * a0 + 257 * a1 + 65792 * a2 + 16842752 * a3 + 4311744512 * a4 + 1103806595072 * a5 + 282574488338432 * a6 + 72339069014638592 * a7 := by omega
  rw [q2]
  have q3 : (1 * a0 + 257 * a1 + 65792 * a2 + 16842752 * a3 + 4311744512 * a4 + 1103806595072 * a5 + 282574488338432 * a6 + 72339069014638592 * a7) / 2 ^ 16 = 1 * a2 + 257 * a3 + 65792 * a4 + 16842752 * a5 + 4311744512 * a6 + 1103806595072 * a7 := by omega
  rw [q3]
  have q4 : 1 * a0 + 257 * a1 + 65792 * a2 + 16842752 * a3 + 4311744512 * a4 + 1103806595072 * a5 + 282574488338432 * a6 + 72339069014638592 * a7 + (1 * a2 + 257 * a3 + 65792 * a4 + 16842752 * a5 + 4311744512 * a6 + 1103806595072 * a7) = 1 * a0 + 257 * a1 + 65793 * a2 + 16843009 * a3 + 4311810304 * a4 + 1103823437824 * a5 + 282578800082944 * a6 + 72340172821233664 * a7 := by omega
  rw [q4]
  have q5 : (1 * a0 + 257 * a1 + 65793 * a2 + 16843009 * a3 + 4311810304 * a4 + 1103823437824 * a5 + 282578800082944 * a6 + 72340172821233664 * a7) / 2 ^ 32 = 1 * a4 + 257 * a5 + 65793 * a6 + 16843009 * a7 := by omega
  rw [q5]
  omega
theorem nByt_lt (x k : Nat) : nByt x k ≤ 8 * pM 1 k := by
  induction k generalizing x with
  | zero => simp [nByt]
  | succ k ih =>
    have := ih (x / 256)
    have := nCnt_le (x % 256) 8
    simp only [nByt, pM]
    omega
def gUse (J : Nat → Nat → Int64) (b : Int64) (pe ph : Int) (k : Nat) : Nat → Nat → Int64 := gr J 3 (fun r => if r < k ∧ (r : Int) % pe = ph then J 3 r ||| b else J 3 r)
theorem gUse_at (J : Nat → Nat → Int64) (b : Int64) (pe ph : Int) (k r : Nat) : gUse J b pe ph k 3 r = if r < k ∧ (r : Int) % pe = ph then J 3 r ||| b else J 3 r := by
  unfold gUse
  rw [gr_self]
theorem gUse_0 (J : Nat → Nat → Int64) (b : Int64) (pe ph : Int) : gUse J b pe ph 0 = J := by
  funext k r
  unfold gUse
  rw [gr_at]
  split
  · next h => subst h; rw [if_neg (by omega)]
  · rfl
theorem gUse_n {J : Nat → Nat → Int64} {b : Int64} {pe ph : Int} {k : Nat} (h : ¬ (k : Int) % pe = ph) : gUse J b pe ph k = gUse J b pe ph (k + 1) := by
  unfold gUse
  congr 1
  funext r
  by_cases hr : r = k
  · subst hr
    rw [if_neg (fun q => h q.2), if_neg (fun q => h q.2)]
  · by_cases h2 : r < k ∧ (r : Int) % pe = ph
    · rw [if_pos h2, if_pos ⟨by omega, h2.2⟩]
    · rw [if_neg h2, if_neg (fun q => h2 ⟨by omega, q.2⟩)]
theorem gUse_y {J : Nat → Nat → Int64} {b : Int64} {pe ph : Int} {k : Nat} (h : (k : Int) % pe = ph) : gu (gUse J b pe ph k) 3 k (gUse J b pe ph k 3 k ||| b) = gUse J b pe ph (k + 1) := by
  funext k' r
  rw [gu_at]
  by_cases hk : k' = 3
  · subst hk
    rw [gUse_at, gUse_at, gUse_at]
    by_cases hr : r = k
    · subst hr
      rw [if_pos ⟨rfl, rfl⟩, if_neg (by omega), if_pos ⟨by omega, h⟩]
    · rw [if_neg (by omega)]
      by_cases h2 : r < k ∧ (r : Int) % pe = ph
      · rw [if_pos h2, if_pos ⟨by omega, h2.2⟩]
      · rw [if_neg h2, if_neg (fun q => h2 ⟨by omega, q.2⟩)]
  · rw [if_neg (by omega)]
    unfold gUse
    rw [gr_ne _ _ hk, gr_ne _ _ hk]
