/-! ===== the synchroniser over the ghost ===== -/
theorem nat_bitsB {F : Nat} {G : Nat → Nat → Int} {top : Int} {B : Nat} (hp : mPast G) (h : ∀ q : Nat, q < B → (F.testBit q = true ↔ G 38 (top - (q : Int)).toNat = 1)) (w s : Nat) (hs : s + w ≤ B) : ((F / 2 ^ s % 2 ^ w : Nat) : Int) = mBits G (top - (s : Int) - (w : Int) + 1) w := by
  induction w generalizing s with
  | zero => simp [mBits, Nat.mod_one]
  | succ w ih =>
    have h1 := ih (s + 1) (by omega)
    have h2 : F / 2 ^ s % 2 ^ (w + 1) = 2 * (F / 2 ^ (s + 1) % 2 ^ w) + F / 2 ^ s % 2 := by
      rw [Nat.pow_succ 2 s, ← Nat.div_div_eq_div_mul, Nat.pow_succ, Nat.mul_comm (2 ^ w) 2, Nat.mod_mul]
      omega
    have h3 : ((F / 2 ^ s % 2 : Nat) : Int) = G 38 (top - (s : Int)).toNat := by
      have h4 := h s (by omega)
      rw [Nat.testBit_eq_decide_div_mod_eq, decide_eq_true_iff] at h4
      have h5 := hp (top - (s : Int)).toNat
      have h6 : F / 2 ^ s % 2 = 0 ∨ F / 2 ^ s % 2 = 1 := by omega
      omega
    rw [h2]
    simp only [mBits]
    have e1 : top - ((s + 1 : Nat) : Int) - (w : Int) + 1 = top - (s : Int) - ((w + 1 : Nat) : Int) + 1 := by omega
    rw [e1] at h1
    have e2 : (top - (s : Int) - ((w + 1 : Nat) : Int) + 1 + (w : Int)).toNat = (top - (s : Int)).toNat := by congr 1; omega
    rw [e2, ← h1, ← h3]
    omega
/-- the last 64 bits -/
def LaR (L : Int64) (G : Nat → Nat → Int) (t : Int) : Prop := ∀ q : Nat, q < 64 → ((lnat L).testBit q = true ↔ (q : Int) < t ∧ G 38 (t - 1 - (q : Int)).toNat = 1)
theorem LaR_step {L : Int64} {G : Nat → Nat → Int} {b : Int} (h : LaR L G (G 28 12)) (h0 : 0 ≤ G 28 12) (hb : b = 0 ∨ b = 1) : LaR (gshl L (nI 1) ||| zL b) (mT1 G b) (G 28 12 + 1) := by
  have hbn : lnat (zL b) = b.toNat := by rcases hb with rfl | rfl <;> decide
  intro q hq
  rw [ln_or, ln_shl _ (by decide), hbn, Nat.testBit_or, Bool.or_eq_true, Nat.testBit_mod_two_pow]
  cases q with
  | zero =>
    have e1 : (lnat L * 2 ^ 1).testBit 0 = false := by
      rw [Nat.testBit_zero]
      simp
    have e2 : mT1 G b 38 (G 28 12 + 1 - 1 - ((0 : Nat) : Int)).toNat = b := by
      unfold mT1
      rw [gu_ne _ _ _ (by decide), gu_at, if_pos ⟨rfl, by congr 1; omega⟩]
    rw [e1, e2]
    rcases hb with rfl | rfl
    · simp
    · simp; omega
  | succ q =>
    have e1 : (lnat L * 2 ^ 1).testBit (q + 1) = (lnat L).testBit q := by
      rw [Nat.testBit_mul_two_pow]
      simp
    have e3 : b.toNat.testBit (q + 1) = false := by
      rcases hb with rfl | rfl
      · exact Nat.zero_testBit _
      · exact Nat.testBit_lt_two_pow (Nat.one_lt_two_pow (by omega))
    have e4 := h q (by omega)
    rw [e1, e3]
    by_cases hqt : (q : Int) < G 28 12
    · have e2 : mT1 G b 38 (G 28 12 + 1 - 1 - ((q + 1 : Nat) : Int)).toNat = G 38 (G 28 12 - 1 - (q : Int)).toNat := by
        rw [mT1_k G b (by omega) (by omega)]
        congr 2
        omega
      rw [e2]
      constructor
      · rintro (h9 | h9)
        · simp only [Bool.and_eq_true] at h9
          exact ⟨by omega, (e4.mp h9.2).2⟩
        · cases h9
      · intro h9
        left
        simp only [Bool.and_eq_true, decide_eq_true_eq]
        exact ⟨hq, e4.mpr ⟨hqt, h9.2⟩⟩
    · constructor
      · rintro (h9 | h9)
        · simp only [Bool.and_eq_true] at h9
          exact absurd (e4.mp h9.2).1 hqt
        · cases h9
      · intro h9
        exact absurd h9.1 (by omega)
theorem La_word {L : Int64} {G : Nat → Nat → Int} {t : Int} (hp : mPast G) (h : LaR L G t) (ht : 8 ≤ t) : ((lnat L % 256 : Nat) : Int) = mBits G (t - 8) 8 := by
  have h1 := nat_bitsB (F := lnat L) (top := t - 1) (B := 8) hp (fun q hq => (h q (by omega)).trans ⟨fun z => z.2, fun z => ⟨by omega, z⟩⟩) 8 0 (by omega)
  simp only [Nat.pow_zero, Nat.div_one] at h1
  rw [show (256 : Nat) = 2 ^ 8 from rfl, h1]
  congr 1
  omega
theorem La_184 {L : Int64} {G : Nat → Nat → Int} {t : Int} (h : LaR L G t) (e : lnat L % 256 = 184) : 8 ≤ t := by
  have h1 : (lnat L % 2 ^ 8).testBit 7 = true := by rw [show (2 : Nat) ^ 8 = 256 from rfl, e]; decide
  rw [Nat.testBit_mod_two_pow] at h1
  simp only [Bool.and_eq_true] at h1
  have := ((h 7 (by omega)).mp h1.2).1
  omega
theorem La_fr {L : Int64} {G : Nat → Nat → Int} {t : Int} (h : LaR L G t) (ht : 64 ≤ t) : FrR L G (t - 1) := fun q hq => (h q hq).trans ⟨fun z => z.2, fun z => ⟨by omega, z⟩⟩
theorem wrong_x : ∀ y0 y1 y2 y3 y4 y5 y6 y7 : Fin 2, (0 + (if ((y0.val : Nat) : Int) = 1 then 0 else 1) + (if ((y1.val : Nat) : Int) = 0 then 0 else 1) + (if ((y2.val : Nat) : Int) = 1 then 0 else 1) + (if ((y3.val : Nat) : Int) = 1 then 0 else 1) + (if ((y4.val : Nat) : Int) = 1 then 0 else 1) + (if ((y5.val : Nat) : Int) = 0 then 0 else 1) + (if ((y6.val : Nat) : Int) = 0 then 0 else 1) + (if ((y7.val : Nat) : Int) = 0 then 0 else 1) : Int) = ((nCnt ((128 * y0.val + 64 * y1.val + 32 * y2.val + 16 * y3.val + 8 * y4.val + 4 * y5.val + 2 * y6.val + 1 * y7.val) ^^^ 184) 8 : Nat) : Int) := by decide +kernel
theorem fin2 {x : Int} (h : x = 0 ∨ x = 1) : ∃ y : Fin 2, x = ((y.val : Nat) : Int) := by
  rcases h with rfl | rfl
  · exact ⟨0, rfl⟩
  · exact ⟨1, rfl⟩
theorem wrong_cnt {G : Nat → Nat → Int} {v : Nat} (hp : mPast G) (hv : (v : Int) = mBits G (G 28 15) 8) : mWrong G 8 = (nCnt (v ^^^ 184) 8 : Int) := by
  have t0 : tb 184 (7 - ((0 : Nat) : Int)) = 1 := by decide
  have t1 : tb 184 (7 - ((1 : Nat) : Int)) = 0 := by decide
  have t2 : tb 184 (7 - ((2 : Nat) : Int)) = 1 := by decide
  have t3 : tb 184 (7 - ((3 : Nat) : Int)) = 1 := by decide
  have t4 : tb 184 (7 - ((4 : Nat) : Int)) = 1 := by decide
  have t5 : tb 184 (7 - ((5 : Nat) : Int)) = 0 := by decide
  have t6 : tb 184 (7 - ((6 : Nat) : Int)) = 0 := by decide
  have t7 : tb 184 (7 - ((7 : Nat) : Int)) = 0 := by decide
  simp only [mBits] at hv
  simp only [mWrong, t0, t1, t2, t3, t4, t5, t6, t7]
  obtain ⟨y0, hy0⟩ := fin2 (hp (G 28 15 + ((0 : Nat) : Int)).toNat)
  obtain ⟨y1, hy1⟩ := fin2 (hp (G 28 15 + ((1 : Nat) : Int)).toNat)
  obtain ⟨y2, hy2⟩ := fin2 (hp (G 28 15 + ((2 : Nat) : Int)).toNat)
  obtain ⟨y3, hy3⟩ := fin2 (hp (G 28 15 + ((3 : Nat) : Int)).toNat)
  obtain ⟨y4, hy4⟩ := fin2 (hp (G 28 15 + ((4 : Nat) : Int)).toNat)
  obtain ⟨y5, hy5⟩ := fin2 (hp (G 28 15 + ((5 : Nat) : Int)).toNat)
  obtain ⟨y6, hy6⟩ := fin2 (hp (G 28 15 + ((6 : Nat) : Int)).toNat)
  obtain ⟨y7, hy7⟩ := fin2 (hp (G 28 15 + ((7 : Nat) : Int)).toNat)
  rw [hy0, hy1, hy2, hy3, hy4, hy5, hy6, hy7] at hv
  rw [hy0, hy1, hy2, hy3, hy4, hy5, hy6, hy7]
  have hv3 : v = 128 * y0.val + 64 * y1.val + 32 * y2.val + 16 * y3.val + 8 * y4.val + 4 * y5.val + 2 * y6.val + 1 * y7.val := by omega
  rw [hv3]
  exact wrong_x y0 y1 y2 y3 y4 y5 y6 y7
theorem xor_0 : ∀ v : Nat, v < 256 → (nCnt (v ^^^ 184) 8 = 0 ↔ v = 184) := by decide +kernel
theorem xor184 : ∀ a : Nat, a < 256 → nI a ^^^ nI 184 = nI (a ^^^ 184) ∧ a ^^^ 184 < 256 := by decide +kernel
theorem mBits_t1 {G : Nat → Nat → Int} {b fr : Int} (h0 : 0 ≤ fr) (ht : 0 ≤ G 28 12) : ∀ k : Nat, fr + (k : Int) ≤ G 28 12 → mBits (mT1 G b) fr k = mBits G fr k := by
  intro k
  induction k with
  | zero => intro _; rfl
  | succ k ih =>
    intro h
    simp only [mBits]
    rw [ih (by omega), mT1_k G b (by omega) (by omega)]
theorem mCnt_t1 {G : Nat → Nat → Int} {b : Int} {o : Nat} (ht : 0 ≤ G 28 12) : ∀ q : Nat, q ≤ ((G 28 12).toNat + 56 - o) / 64 → mCnt (mT1 G b) o q = mCnt G o q := by
  intro q
  induction q with
  | zero => intro _; rfl
  | succ q ih =>
    intro h
    simp only [mCnt]
    rw [ih (by omega), mBits_t1 (by omega) ht 8 (by omega)]
theorem mT1_12 (G : Nat → Nat → Int) (b : Int) : mT1 G b 28 12 = G 28 12 + 1 := by
  unfold mT1
  rw [gu_at, if_pos ⟨rfl, rfl⟩]
theorem Mat_y {G : Nat → Nat → Int} {b : Int} {o : Nat} (ho : o < 64) (ht : 0 ≤ G 28 12) (h8 : 8 ≤ G 28 12 + 1) (hw : mBits (mT1 G b) (G 28 12 + 1 - 8) 8 = 184) : mMat (mT1 G b) o = if o = ((G 28 12 + 1 - 8) % 64).toNat then mMat G o + 1 else mMat G o := by
  unfold mMat
  rw [mT1_12]
  by_cases q : o = ((G 28 12 + 1 - 8) % 64).toNat
  · rw [if_pos q]
    have e : ((G 28 12 + 1).toNat + 56 - o) / 64 = ((G 28 12).toNat + 56 - o) / 64 + 1 := by omega
    rw [e]
    simp only [mCnt]
    have e2 : ((o + 64 * (((G 28 12).toNat + 56 - o) / 64) : Nat) : Int) = G 28 12 + 1 - 8 := by omega
    rw [mCnt_t1 ht _ (Nat.le_refl _), e2, if_pos hw]
  · rw [if_neg q]
    have e : ((G 28 12 + 1).toNat + 56 - o) / 64 = ((G 28 12).toNat + 56 - o) / 64 := by omega
    rw [e, mCnt_t1 ht _ (Nat.le_refl _)]
theorem Mat_n {G : Nat → Nat → Int} {b : Int} {o : Nat} (ho : o < 64) (ht : 0 ≤ G 28 12) (hw : ¬ (8 ≤ G 28 12 + 1 ∧ mBits (mT1 G b) (G 28 12 + 1 - 8) 8 = 184)) : mMat (mT1 G b) o = mMat G o := by
  unfold mMat
  rw [mT1_12]
  by_cases q : 8 ≤ G 28 12 + 1 ∧ o = ((G 28 12 + 1 - 8) % 64).toNat
  · have e : ((G 28 12 + 1).toNat + 56 - o) / 64 = ((G 28 12).toNat + 56 - o) / 64 + 1 := by omega
    rw [e]
    simp only [mCnt]
    have e2 : ((o + 64 * (((G 28 12).toNat + 56 - o) / 64) : Nat) : Int) = G 28 12 + 1 - 8 := by omega
    rw [mCnt_t1 ht _ (Nat.le_refl _), e2, if_neg (fun z => hw ⟨q.1, z⟩), Int.add_zero]
  · have e : ((G 28 12 + 1).toNat + 56 - o) / 64 = ((G 28 12).toNat + 56 - o) / 64 := by omega
    rw [e, mCnt_t1 ht _ (Nat.le_refl _)]
theorem mCnt_38 {G G' : Nat → Nat → Int} (h : ∀ j, G' 38 j = G 38 j) (o q : Nat) : mCnt G' o q = mCnt G o q := by
  induction q with
  | zero => rfl
  | succ q ih => simp only [mCnt]; rw [ih, mBits_38 h]
theorem mMat_38 {G G' : Nat → Nat → Int} (h : ∀ j, G' 38 j = G 38 j) (h2 : G' 28 12 = G 28 12) (o : Nat) : mMat G' o = mMat G o := by
  unfold mMat
  rw [h2, mCnt_38 h]
/-- the synchroniser, all of it -/
def CSy (A : Nat → Nat → Int32) (J : Nat → Nat → Int64) (G : Nat → Nat → Int) : Prop := A 7 0 = zI (G 28 14) ∧ A 7 1 = zI (G 28 12) ∧ LaR (J 7 2) G (G 28 12) ∧ (G 28 14 ≠ 0 → A 7 3 = zI ((G 28 12 - G 28 15) % 64)) ∧ (G 28 14 = 1 → A 7 4 = zI (G 28 16)) ∧ (G 28 14 = 2 → A 7 5 = zI (G 28 17)) ∧ ∀ o : Nat, o < 64 → A 8 o = zI (mMat G o)
theorem LaR.to {L : Int64} {G G' : Nat → Nat → Int} {t : Int} (h : LaR L G t) (e : ∀ j, G' 38 j = G 38 j) : LaR L G' t := fun q hq => by rw [e]; exact h q hq
theorem CSy.mk' {A1 : Nat → Nat → Int32} {J1 : Nat → Nat → Int64} {G G' : Nat → Nat → Int} (h38 : ∀ j, G' 38 j = G 38 j) (h12 : G' 28 12 = G 28 12) (h0 : A1 7 0 = zI (G' 28 14)) (h1 : A1 7 1 = zI (G 28 12)) (hL : LaR (J1 7 2) G (G 28 12)) (h3 : G' 28 14 ≠ 0 → A1 7 3 = zI ((G 28 12 - G' 28 15) % 64)) (h4 : G' 28 14 = 1 → A1 7 4 = zI (G' 28 16)) (h5 : G' 28 14 = 2 → A1 7 5 = zI (G' 28 17)) (h8 : ∀ o : Nat, o < 64 → A1 8 o = zI (mMat G o)) : CSy A1 J1 G' := by
  unfold CSy
  rw [h12]
  exact ⟨h0, h1, hL.to h38, h3, h4, h5, fun o ho => by rw [mMat_38 h38 h12]; exact h8 o ho⟩
