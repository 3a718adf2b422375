/-! ===== whole frames; the derived points' rows ===== -/
def mWh (G : Nat → Nat → Int) (f : Nat) : Prop := G 28 22 = 0 ∧ G 28 23 = 0 ∧ (f < 2 → G 28 21 = 0 ∧ G 28 14 = 1) ∧ (2 ≤ f → G 28 21 = (f : Int) - 1 ∧ G 28 14 = 2) ∧ mMat G 0 = (f : Int) + 1 ∧ ∀ i : Nat, (i : Int) < G 28 0 → 2 ≤ f → (f : Int) % G 31 i = G 33 i → G 41 i ≠ 0 ∧ G 39 i = G 35 i ∧ (64 * (f : Int) ≤ G 40 i ∧ G 40 i < 64 * (f : Int) + 64) ∧ G 42 i = 0
theorem mCT1_or (G : Nat → Nat → Int) (a b k : Nat) : mCT1 G (a ||| b) k = mCT1 G a k ||| mCT1 G b k := by
  refine Nat.eq_of_testBit_eq fun x => ?_
  unfold mCT1
  rw [Nat.testBit_or]
  by_cases hk : G 43 k = -1
  · rw [if_neg (fun z => z.2 hk), if_neg (fun z => z.2 hk), if_neg (fun z => z.2 hk), Nat.testBit_or]
  · by_cases ha : a.testBit k = true <;> by_cases hb : b.testBit k = true <;> simp [ha, hb, hk, Nat.testBit_or, Bool.or_assoc, Bool.or_comm, Bool.or_left_comm]
theorem mCTk_or (G : Nat → Nat → Int) (a b : Nat) (k : Nat) : mCTk G (a ||| b) k = mCTk G a k ||| mCTk G b k := by
  induction k with
  | zero => rfl
  | succ k ih =>
    show mCT1 G (mCTk G (a ||| b) k) k = mCT1 G (mCTk G a k) k ||| mCT1 G (mCTk G b k) k
    rw [ih, mCT1_or]
theorem mCTr_or (G : Nat → Nat → Int) (a b : Nat) (r : Nat) : mCTr G (a ||| b) r = mCTr G a r ||| mCTr G b r := by
  induction r with
  | zero => rfl
  | succ r ih =>
    show mCTk G (mCTr G (a ||| b) r) 8 = mCTk G (mCTr G a r) 8 ||| mCTk G (mCTr G b r) 8
    rw [ih, mCTk_or]
theorem mReach_or (G : Nat → Nat → Int) (a b : Int) (x : Nat) : (mReach G a b).testBit x = true ↔ (mCTr G (om a) 8).testBit x = true ∨ (mCTr G (om b) 8).testBit x = true := by
  unfold mReach
  rw [mCTr_or, Nat.testBit_or, Bool.or_eq_true]
theorem shl_20 {a : Nat} (h : a ≤ 5) : nI a <<< (nI 20 &&& 31) = nI (a * 1048576) := pk_shlN (n := a) (nI 20 &&& 31) 20 (by decide) (by omega)
theorem shl_10 {a : Nat} (h : a < 1024) : nI a <<< (nI 10 &&& 31) = nI (a * 1024) := pk_shlN (n := a) (nI 10 &&& 31) 10 (by decide) (by omega)
theorem or_20 {a b : Nat} (ha : a ≤ 5) (hb : b < 1024) : nI (a * 1048576) ||| nI (b * 1024) = nI (a * 1048576 + b * 1024) := by
  rw [nI_or (by omega) (by omega)]
  congr 1
  have h9 := Nat.two_pow_add_eq_or_of_lt (i := 20) (b := b * 1024) (by omega) a
  rw [show 2 ^ 20 * a = a * 1048576 from by omega] at h9
  exact h9.symm
theorem or_10 {a b s : Nat} (ha : a ≤ 5 ∧ b < 1024) (hs : s < 1024) : nI (a * 1048576 + b * 1024) ||| nI s = nI (a * 1048576 + b * 1024 + s) := by
  rw [nI_or (by omega) (by omega)]
  congr 1
  have h9 := Nat.two_pow_add_eq_or_of_lt (i := 10) (b := s) (by omega) (a * 1024 + b)
  rw [show 2 ^ 10 * (a * 1024 + b) = a * 1048576 + b * 1024 from by omega] at h9
  exact h9.symm
theorem dN_set {A : Nat → Nat → Int32} {G : Nat → Nat → Int} {i o f s : Nat} (h : ∀ k, k < 8 → A 32 k = nI (dN G k)) {k : Nat} (hk : k < 8) : gu A 32 i (nI ((o + 1) * 1048576 + f * 1024 + s)) 32 k = nI (dN (gu (gu (gu G 43 i (o : Int)) 44 i (f : Int)) 45 i (s : Int)) k) := by
  rw [gu_at]
  by_cases hki : k = i
  · subst hki
    rw [if_pos ⟨rfl, rfl⟩]
    congr 1
    unfold dN
    have e43 : gu (gu (gu G 43 k (o : Int)) 44 k (f : Int)) 45 k (s : Int) 43 k = (o : Int) := by simp [gu_at]
    have e44 : gu (gu (gu G 43 k (o : Int)) 44 k (f : Int)) 45 k (s : Int) 44 k = (f : Int) := by simp [gu_at]
    have e45 : gu (gu (gu G 43 k (o : Int)) 44 k (f : Int)) 45 k (s : Int) 45 k = (s : Int) := by simp [gu_at]
    rw [e43, e44, e45, if_neg (by omega)]
    simp
  · rw [if_neg (fun z => hki z.2), h k hk]
    congr 1
    unfold dN
    simp [gu_at, hki]
theorem mDers_k (G : Nat → Nat → Int) {q : Nat} (j : Nat) (h : q < 46 ∨ 48 < q) : mDers G q j = G q j := by
  unfold mDers
  rw [mDerR_k _ _ _ h, mClr_k _ _ _ (by omega)]
theorem dN_a {G : Nat → Nat → Int} (h : mDvOk G) (k : Nat) : (G 43 k = -1 ∧ dN G k / 1024 % 1024 = 0) ∨ (G 43 k ≠ -1 ∧ ((dN G k / 1024 % 1024 : Nat) : Int) = G 44 k) := by
  obtain ⟨a, b, c⟩ := h k
  unfold dN
  by_cases hk : G 43 k = -1
  · rw [if_pos hk]; exact Or.inl ⟨hk, rfl⟩
  · rw [if_neg hk]; exact Or.inr ⟨hk, by omega⟩
theorem dN_b {G : Nat → Nat → Int} (h : mDvOk G) (k : Nat) : (G 43 k = -1 ∧ dN G k % 1024 = 0) ∨ (G 43 k ≠ -1 ∧ ((dN G k % 1024 : Nat) : Int) = G 45 k) := by
  obtain ⟨a, b, c⟩ := h k
  unfold dN
  by_cases hk : G 43 k = -1
  · rw [if_pos hk]; exact Or.inl ⟨hk, rfl⟩
  · rw [if_neg hk]; exact Or.inr ⟨hk, by omega⟩
