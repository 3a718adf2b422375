/-! ===== the receiver, bit by bit ===== -/
def mT1 (G : Nat → Nat → Int) (b : Int) : Nat → Nat → Int := gu (gu G 38 (G 28 12).toNat b) 28 12 (G 28 12 + 1)
abbrev mRep1 (G : Nat → Nat → Int) : Prop := G 28 19 ≠ -1 ∧ mFar G = 0
def mDecT (G : Nat → Nat → Int) : Nat → Nat → Int := if mRep1 G then gu G 28 23 (G 28 23 + 1) else mDecG G
def mTake (G : Nat → Nat → Int) (b : Int) : Nat → Nat → Int :=
  if G 28 14 = 0 then
    (if 8 ≤ G 28 12 + 1 ∧ mBits (mT1 G b) (G 28 12 + 1 - 8) 8 = 184 then gu (gu (gu (gu (mT1 G b) 28 14 1) 28 16 1) 28 15 (G 28 12 + 1 - 8)) 28 18 0 else mT1 G b)
  else if G 28 12 + 1 - G 28 15 = 72 then mCmp (gu (mT1 G b) 28 15 (G 28 15 + 64))
  else if G 28 12 + 1 - G 28 15 = 64 ∧ G 28 18 ≠ 0 then mDecT (mT1 G b)
  else mT1 G b
def mUsed (G : Nat → Nat → Int) (b : Int) : Int := if G 28 14 ≠ 0 ∧ G 28 12 + 1 - G 28 15 = 64 ∧ G 28 18 ≠ 0 ∧ ¬ mRep1 (mT1 G b) then 1 else 0
abbrev mStOk (G : Nat → Nat → Int) : Prop := G 28 14 = 0 ∨ ((G 28 14 = 1 ∨ G 28 14 = 2) ∧ 0 ≤ G 28 15 ∧ 8 ≤ G 28 12 - G 28 15 ∧ G 28 12 - G 28 15 < 72 ∧ (G 28 18 = 1 ↔ G 28 14 = 2))
abbrev mNrOk (G : Nat → Nat → Int) : Prop := (0 ≤ G 28 16 ∧ G 28 16 ≤ G 28 12) ∧ (0 ≤ G 28 17 ∧ G 28 17 ≤ G 28 12) ∧ (0 ≤ G 28 18 ∧ G 28 18 ≤ 1) ∧ mCtrOk G ∧ (0 ≤ G 28 21 ∧ 0 ≤ G 28 23 ∧ G 28 21 + G 28 23 ≤ G 28 12) ∧ (G 28 19 = -1 ↔ G 28 21 = 0) ∧ (0 ≤ G 28 20 ∧ G 28 20 ≤ 255 * G 28 21) ∧ (0 ≤ G 28 22 ∧ G 28 22 ≤ 255 * G 28 21)
abbrev mSaOk (G : Nat → Nat → Int) : Prop := ∀ i, (0 ≤ G 41 i ∧ G 41 i ≤ 2 * G 28 21) ∧ (0 ≤ G 42 i ∧ G 42 i ≤ 2 * G 28 22)
abbrev mRcvOk (G : Nat → Nat → Int) : Prop := TsOk G ∧ mPast G ∧ (0 ≤ G 28 12 ∧ G 28 12 ≤ 8000) ∧ mStOk G ∧ mNrOk G ∧ mSaOk G
theorem mT1_k (G : Nat → Nat → Int) (b : Int) {k j : Nat} (h1 : ¬ (k = 38 ∧ j = (G 28 12).toNat)) (h2 : ¬ (k = 28 ∧ j = 12)) : mT1 G b k j = G k j := by
  simp only [mT1, gu_at]
  rw [if_neg h2, if_neg h1]
theorem mPast.t1 {G : Nat → Nat → Int} (h : mPast G) {b : Int} (hb : b = 0 ∨ b = 1) : mPast (mT1 G b) := fun j => by
  simp only [mT1, gu_at]
  rw [if_neg (by omega)]
  split
  · exact hb
  · exact h j
theorem mCmp_k (G : Nat → Nat → Int) {k j : Nat} (h : ¬ (k = 28 ∧ (j = 14 ∨ j = 16 ∨ j = 17 ∨ j = 18))) : mCmp G k j = G k j := by
  unfold mCmp
  split
  · simp only [gu_at]; rw [if_neg (by omega), if_neg (by omega), if_neg (by omega), if_neg (by omega)]
  · simp only [gu_at]; rw [if_neg (by omega), if_neg (by omega), if_neg (by omega)]
theorem mStC_r (G : Nat → Nat → Int) : mStC G = 0 ∨ mStC G = 1 ∨ mStC G = 2 := by
  unfold mStC; (repeat' split) <;> omega
theorem mStL_r (G : Nat → Nat → Int) : mStL G = 0 ∨ mStL G = 2 := by
  unfold mStL; (repeat' split) <;> omega
theorem mCmp_s (G : Nat → Nat → Int) : (mCmp G 28 14 = 0 ∨ mCmp G 28 14 = 1 ∨ mCmp G 28 14 = 2) ∧ (mCmp G 28 18 = if mCmp G 28 14 = 2 then 1 else 0) ∧ (G 28 16 ≤ mCmp G 28 16 ∧ mCmp G 28 16 ≤ G 28 16 + 1) ∧ (mCmp G 28 17 = 0 ∨ mCmp G 28 17 = G 28 17 + 1) := by
  have h1 := mStC_r G
  have h2 := mStL_r G
  unfold mCmp
  split
  · refine ⟨?_, ?_, ?_, ?_⟩
    · show mStC G = 0 ∨ mStC G = 1 ∨ mStC G = 2; exact h1
    · show mDec (mStC G) = if mStC G = 2 then 1 else 0; rfl
    · show G 28 16 ≤ mMt G ∧ mMt G ≤ G 28 16 + 1; unfold mMt; split <;> omega
    · exact Or.inl rfl
  · refine ⟨?_, ?_, ?_, ?_⟩
    · show mStL G = 0 ∨ mStL G = 1 ∨ mStL G = 2; omega
    · show mDec (mStL G) = if mStL G = 2 then 1 else 0; rfl
    · show G 28 16 ≤ G 28 16 ∧ G 28 16 ≤ G 28 16 + 1; omega
    · show mMs G = 0 ∨ mMs G = G 28 17 + 1; unfold mMs; split <;> omega
theorem mDecG_k (G : Nat → Nat → Int) {k j : Nat} (h : ¬ (k = 28 ∧ (j = 19 ∨ j = 20 ∨ j = 21 ∨ j = 22))) (h2 : k < 39 ∨ 42 < k) : mDecG G k j = G k j := by
  unfold mDecG
  rw [mGive_k _ _ _ _ (by omega) (by omega) (by omega)]
  simp only [mDec1, mMissI, gu_at, gr_at]
  rw [if_neg (by omega), if_neg (by omega), if_neg (by omega), if_neg (by omega), if_neg (by omega)]
theorem mDecG_19 (G : Nat → Nat → Int) : mDecG G 28 19 = mK G := rfl
theorem mDecG_20 (G : Nat → Nat → Int) : mDecG G 28 20 = mNum G := rfl
theorem mDecG_21 (G : Nat → Nat → Int) : mDecG G 28 21 = G 28 21 + 1 := rfl
theorem mDecG_22 (G : Nat → Nat → Int) : mDecG G 28 22 = G 28 22 + ((mFar G - 1).toNat : Int) := rfl
theorem mDecG_41 (G : Nat → Nat → Int) (i : Nat) : mDecG G 41 i = if i < (G 28 0).toNat ∧ mK G % G 31 i = G 33 i then G 41 i + G 32 i else G 41 i := by
  show (if i < (G 28 0).toNat ∧ mK G % G 31 i = G 33 i then G 41 i + G 32 i else if i = (G 28 0).toNat then G 41 i + ((0 : Nat) : Int) else G 41 i) = _
  split
  · rfl
  · split <;> simp
theorem mDecG_42 (G : Nat → Nat → Int) (i : Nat) : mDecG G 42 i = if (i : Int) < G 28 0 then mMi G i (mFar G - 1).toNat else G 42 i := by
  show (if i < 0 then mMi G i ((mFar G - 1).toNat + 1) else if (i : Int) < G 28 0 then mMi G i (mFar G - 1).toNat else G 42 i) = _
  rw [if_neg (Nat.not_lt_zero _)]
theorem mDecG_ok {G : Nat → Nat → Int} (h : mRcvOk G) (hr : ¬ mRep1 G) (hx : G 28 21 + G 28 23 < G 28 12) (hs : G 28 14 ≠ 0) : mRcvOk (mDecG G) := by
  obtain ⟨hT, hp, ht, hst, ⟨n1, n2, n3, n4, n5, n6, n7, n8⟩, hsa⟩ := h
  have hk := mK_range (G := G) hp
  have hf := mFar_range (G := G)
  have e12 : mDecG G 28 12 = G 28 12 := rfl
  have e14 : mDecG G 28 14 = G 28 14 := rfl
  have e15 : mDecG G 28 15 = G 28 15 := rfl
  have e16 : mDecG G 28 16 = G 28 16 := rfl
  have e17 : mDecG G 28 17 = G 28 17 := rfl
  have e18 : mDecG G 28 18 = G 28 18 := rfl
  have e23 : mDecG G 28 23 = G 28 23 := rfl
  have hnum : 0 ≤ mNum G ∧ mNum G ≤ 255 * (G 28 21 + 1) := by
    unfold mNum
    split <;> omega
  refine ⟨hT.to rfl (fun k j a b => mDecG_k G (by omega) (by omega)), fun j => ?_, by rw [e12]; exact ht, by rw [mStOk, e12, e14, e15, e18]; exact hst, ?_, fun i => ?_⟩
  · rw [mDecG_k G (by omega) (by omega)]; exact hp j
  · rw [mNrOk, e12, e16, e17, e18, e23, mDecG_20, mDecG_21, mDecG_22, mCtrOk, mDecG_19]
    have hnf : G 28 19 ≠ -1 → mFar G ≠ 0 := fun a b => hr ⟨a, b⟩
    refine ⟨n1, n2, n3, by omega, by omega, by omega, by omega, by omega⟩
  · have hsi := hsa i
    rw [mDecG_41, mDecG_42, mDecG_21, mDecG_22]
    refine ⟨?_, ?_⟩
    · split
      · rename_i hh
        have := (hT.2.2 i (by omega)).2.2.2.2.2.2.1
        omega
      · omega
    · split
      · rename_i hh
        have h32 := (hT.2.2 i hh).2.2.2.2.2.2.1
        have := mMi_range (G := G) (i := i) (by omega) (mFar G - 1).toNat
        omega
      · omega
theorem mTake_k (G : Nat → Nat → Int) (b : Int) {k : Nat} (j : Nat) (h1 : k ≠ 28) (h2 : k < 38 ∨ 42 < k) : mTake G b k j = G k j := by
  have h3 : mT1 G b k j = G k j := mT1_k G b (by omega) (by omega)
  unfold mTake
  split
  · split
    · rw [gu_ne _ _ _ h1, gu_ne _ _ _ h1, gu_ne _ _ _ h1, gu_ne _ _ _ h1]; exact h3
    · exact h3
  · split
    · rw [mCmp_k _ (by omega), gu_ne _ _ _ h1]; exact h3
    · split
      · unfold mDecT
        split
        · rw [gu_ne _ _ _ h1]; exact h3
        · rw [mDecG_k _ (by omega) (by omega)]; exact h3
      · exact h3
theorem mTake_sc (G : Nat → Nat → Int) (b : Int) {j : Nat} (h : j < 12 ∨ 23 < j ∨ j = 13) : mTake G b 28 j = G 28 j := by
  have h3 : mT1 G b 28 j = G 28 j := mT1_k G b (by omega) (by omega)
  unfold mTake
  split
  · split
    · simp only [gu_at]; rw [if_neg (by omega), if_neg (by omega), if_neg (by omega), if_neg (by omega)]; exact h3
    · exact h3
  · split
    · rw [mCmp_k _ (by omega), gu_at, if_neg (by omega)]; exact h3
    · split
      · unfold mDecT
        split
        · rw [gu_at, if_neg (by omega)]; exact h3
        · rw [mDecG_k _ (by omega) (by omega)]; exact h3
      · exact h3
theorem mTake_12 (G : Nat → Nat → Int) (b : Int) : mTake G b 28 12 = G 28 12 + 1 := by
  unfold mTake
  split
  · split <;> rfl
  · split
    · rw [mCmp_k _ (by omega)]; rfl
    · split
      · unfold mDecT
        split
        · rfl
        · rw [mDecG_k _ (by omega) (by omega)]; rfl
      · rfl
theorem mT1_ok {G : Nat → Nat → Int} {b : Int} (h : mRcvOk G) (ht : G 28 12 < 8000) (hb : b = 0 ∨ b = 1) (hs : G 28 14 = 0 ∨ G 28 12 + 1 - G 28 15 < 72) : mRcvOk (mT1 G b) ∧ mT1 G b 28 21 + mT1 G b 28 23 < mT1 G b 28 12 := by
  obtain ⟨hT, hp, ht0, hst, ⟨n1, n2, n3, n4, n5, n6, n7, n8⟩, hsa⟩ := h
  have e : ∀ j, j ≠ 12 → mT1 G b 28 j = G 28 j := fun j hj => mT1_k G b (by omega) (by omega)
  have e12 : mT1 G b 28 12 = G 28 12 + 1 := rfl
  refine ⟨⟨hT.to (e 0 (by omega)) (fun k j a b => mT1_k _ _ (by omega) (by omega)), hp.t1 hb, by rw [e12]; omega, ?_, ?_, fun i => ?_⟩, ?_⟩
  · rw [mStOk, e12, e 14 (by omega), e 15 (by omega), e 18 (by omega)]; omega
  · rw [mNrOk, mCtrOk, e12, e 16 (by omega), e 17 (by omega), e 18 (by omega), e 19 (by omega), e 20 (by omega), e 21 (by omega), e 22 (by omega), e 23 (by omega)]
    refine ⟨by omega, by omega, by omega, by omega, by omega, by omega, by omega, by omega⟩
  · rw [e 21 (by omega), e 22 (by omega), mT1_k G b (by omega) (by omega), mT1_k G b (by omega) (by omega)]
    exact hsa i
  · rw [e12, e 21 (by omega), e 23 (by omega)]; omega
theorem mTake_ok {G : Nat → Nat → Int} {b : Int} (h : mRcvOk G) (ht : G 28 12 < 8000) (hb : b = 0 ∨ b = 1) : mRcvOk (mTake G b) := by
  obtain ⟨hT, hp, ht0, hst, ⟨n1, n2, n3, n4, n5, n6, n7, n8⟩, hsa⟩ := id h
  have e : ∀ j, j ≠ 12 → mT1 G b 28 j = G 28 j := fun j hj => mT1_k G b (by omega) (by omega)
  have e12 : mT1 G b 28 12 = G 28 12 + 1 := rfl
  unfold mTake
  by_cases c1 : G 28 14 = 0
  · rw [if_pos c1]
    have h1 := mT1_ok h ht hb (Or.inl c1)
    by_cases c2 : 8 ≤ G 28 12 + 1 ∧ mBits (mT1 G b) (G 28 12 + 1 - 8) 8 = 184
    · rw [if_pos c2]
      obtain ⟨⟨a1, a2, a3, a4, ⟨m1, m2, m3, m4, m5, m6, m7, m8⟩, a6⟩, -⟩ := h1
      refine ⟨a1, a2, a3, ?_, ?_, a6⟩
      · refine Or.inr ⟨Or.inl rfl, ?_, ?_, ?_, ?_⟩
        · show 0 ≤ G 28 12 + 1 - 8; omega
        · show 8 ≤ G 28 12 + 1 - (G 28 12 + 1 - 8); omega
        · show G 28 12 + 1 - (G 28 12 + 1 - 8) < 72; omega
        · show (0 : Int) = 1 ↔ (1 : Int) = 2; omega
      · refine ⟨?_, m2, ?_, m4, m5, m6, m7, m8⟩
        · show 0 ≤ (1 : Int) ∧ 1 ≤ G 28 12 + 1; omega
        · show 0 ≤ (0 : Int) ∧ (0 : Int) ≤ 1; omega
    · rw [if_neg c2]; exact h1.1
  · rw [if_neg c1]
    by_cases c2 : G 28 12 + 1 - G 28 15 = 72
    · rw [if_pos c2]
      have f : ∀ j, j ≠ 12 → j ≠ 15 → gu (mT1 G b) 28 15 (G 28 15 + 64) 28 j = G 28 j := fun j h1 h2 => by rw [gu_at, if_neg (by omega)]; exact e j h1
      have f12 : gu (mT1 G b) 28 15 (G 28 15 + 64) 28 12 = G 28 12 + 1 := rfl
      have f15 : gu (mT1 G b) 28 15 (G 28 15 + 64) 28 15 = G 28 15 + 64 := rfl
      have hc := mCmp_s (gu (mT1 G b) 28 15 (G 28 15 + 64))
      have fk : ∀ k j, k ≠ 28 → mCmp (gu (mT1 G b) 28 15 (G 28 15 + 64)) k j = mT1 G b k j := fun k j h1 => by rw [mCmp_k _ (by omega), gu_ne _ _ _ h1]
      have fs : ∀ j, j ≠ 12 → j ≠ 14 → j ≠ 15 → j ≠ 16 → j ≠ 17 → j ≠ 18 → mCmp (gu (mT1 G b) 28 15 (G 28 15 + 64)) 28 j = G 28 j := fun j h1 h2 h3 h4 h5 h6 => by rw [mCmp_k _ (by omega)]; exact f j h1 h3
      have fs12 : mCmp (gu (mT1 G b) 28 15 (G 28 15 + 64)) 28 12 = G 28 12 + 1 := by rw [mCmp_k _ (by omega)]; exact f12
      have fs15 : mCmp (gu (mT1 G b) 28 15 (G 28 15 + 64)) 28 15 = G 28 15 + 64 := by rw [mCmp_k _ (by omega)]; exact f15
      rw [f 16 (by omega) (by omega), f 17 (by omega) (by omega)] at hc
      refine ⟨hT.to (fs 0 (by omega) (by omega) (by omega) (by omega) (by omega) (by omega)) (fun k j a d => by rw [fk k j (by omega)]; exact mT1_k G b (by omega) (by omega)), fun j => by rw [fk 38 j (by omega)]; exact hp.t1 hb j, by rw [fs12]; omega, ?_, ?_, fun i => ?_⟩
      · rw [mStOk, fs12, fs15]
        obtain ⟨hc1, hc2, -⟩ := hc
        rw [hc2]
        rcases hc1 with q | q | q <;> rw [q] <;> simp <;> omega
      · obtain ⟨hc1, hc2, hc3, hc4⟩ := hc
        rw [mNrOk, mCtrOk, fs12, hc2, fs 19 (by omega) (by omega) (by omega) (by omega) (by omega) (by omega), fs 20 (by omega) (by omega) (by omega) (by omega) (by omega) (by omega), fs 21 (by omega) (by omega) (by omega) (by omega) (by omega) (by omega), fs 22 (by omega) (by omega) (by omega) (by omega) (by omega) (by omega), fs 23 (by omega) (by omega) (by omega) (by omega) (by omega) (by omega)]
        refine ⟨by omega, by omega, by split <;> omega, by omega, by omega, by omega, by omega, by omega⟩
      · rw [fs 21 (by omega) (by omega) (by omega) (by omega) (by omega) (by omega), fs 22 (by omega) (by omega) (by omega) (by omega) (by omega) (by omega), fk 41 i (by omega), fk 42 i (by omega), mT1_k G b (by omega) (by omega), mT1_k G b (by omega) (by omega)]
        exact hsa i
    · rw [if_neg c2]
      have h1 := mT1_ok h ht hb (Or.inr (by omega))
      by_cases c3 : G 28 12 + 1 - G 28 15 = 64 ∧ G 28 18 ≠ 0
      · rw [if_pos c3]
        unfold mDecT
        by_cases c4 : mRep1 (mT1 G b)
        · rw [if_pos c4]
          obtain ⟨⟨a1, a2, a3, a4, ⟨m1, m2, m3, m4, m5, m6, m7, m8⟩, a6⟩, a7⟩ := h1
          refine ⟨a1, a2, a3, a4, ⟨m1, m2, m3, m4, ?_, m6, m7, m8⟩, a6⟩
          show 0 ≤ mT1 G b 28 21 ∧ 0 ≤ mT1 G b 28 23 + 1 ∧ mT1 G b 28 21 + (mT1 G b 28 23 + 1) ≤ mT1 G b 28 12
          omega
        · rw [if_neg c4]
          exact mDecG_ok h1.1 c4 h1.2 (by rw [e 14 (by omega)]; exact c1)
      · rw [if_neg c3]; exact h1.1
/-- q bits of the line are taken -/
def mRcv (G : Nat → Nat → Int) : Nat → Nat → Nat → Int
  | 0 => G
  | q + 1 => mTake (mRcv G q) (G 37 q)
def mRcvU (G : Nat → Nat → Int) : Nat → Int
  | 0 => 0
  | q + 1 => mRcvU G q + mUsed (mRcv G q) (G 37 q)
theorem mUsed_01 (G : Nat → Nat → Int) (b : Int) : mUsed G b = 0 ∨ mUsed G b = 1 := by unfold mUsed; split <;> omega
theorem mRcvU_r (G : Nat → Nat → Int) (q : Nat) : 0 ≤ mRcvU G q ∧ mRcvU G q ≤ q := by
  induction q with
  | zero => exact ⟨Int.le_refl _, by simp [mRcvU]⟩
  | succ q ih =>
    have := mUsed_01 (mRcv G q) (G 37 q)
    simp only [mRcvU]
    omega
theorem mRcv_ok {G : Nat → Nat → Int} (h : mRcvOk G) (hl : ∀ j, G 37 j = 0 ∨ G 37 j = 1) (q : Nat) (hq : G 28 12 + (q : Int) ≤ 8000) : mRcvOk (mRcv G q) ∧ mRcv G q 28 12 = G 28 12 + (q : Int) := by
  induction q with
  | zero => exact ⟨h, by simp [mRcv]⟩
  | succ q ih =>
    obtain ⟨a, b⟩ := ih (by omega)
    refine ⟨mTake_ok a (by rw [b]; omega) (hl q), ?_⟩
    show mTake _ _ 28 12 = _
    rw [mTake_12, b]; omega
theorem mRcv_k (G : Nat → Nat → Int) (q : Nat) {k : Nat} (j : Nat) (h1 : k ≠ 28) (h2 : k < 38 ∨ 42 < k) : mRcv G q k j = G k j := by
  induction q with
  | zero => rfl
  | succ q ih => exact (mTake_k _ _ j h1 h2).trans ih
theorem mRcv_sc (G : Nat → Nat → Int) (q : Nat) {j : Nat} (h : j < 12 ∨ 23 < j ∨ j = 13) : mRcv G q 28 j = G 28 j := by
  induction q with
  | zero => rfl
  | succ q ih => exact (mTake_sc _ _ h).trans ih
