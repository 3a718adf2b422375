/-! ===== small things of the law's checks ===== -/
theorem CAll.bd {n : Nat} {A : Nat → Nat → Int32} {J : Nat → Nat → Int64} {G : Nat → Nat → Int} (h : CAll n A J G) : TsOk G ∧ (0 ≤ G 28 0 ∧ G 28 0 ≤ 12) ∧ (∀ j, 0 ≤ G 41 j ∧ G 41 j < 1000000) ∧ mPast G ∧ (0 ≤ G 28 12 ∧ G 28 12 ≤ 8000) ∧ (0 ≤ G 28 10 ∧ G 28 10 ≤ 8000) ∧ mPres G ∧ mSndOk G ∧ (0 ≤ G 28 9 ∧ G 28 9 ≤ 1000) ∧ G 28 10 ≤ 8 * G 28 9 ∧ mRcvOk G ∧ mDvOk G ∧ mDrOk G ∧ G 28 12 + G 28 10 ≤ 8000 ∧ (∀ j, G 37 j = 0 ∨ G 37 j = 1) ∧ G 28 0 = (n : Int) ∧ (0 ≤ G 28 21 ∧ G 28 21 < 1000000) := by
  obtain ⟨hct, hn, hT, hFs, hpr, hz, hU, hD, hso, hse, hli, hsy, hde, hcd, hok, hdv, hdr, hsn, hol, hln⟩ := h
  have hta := hok.2.2.1
  have hnr := hok.2.2.2.2.1
  have hsa := hok.2.2.2.2.2
  exact ⟨hT, ⟨hT.1, hT.2.1⟩, fun j => by have := hsa j; omega, hok.2.1, hta, by omega, hpr, hso, hsn, by omega, hok, hdv, hdr, by omega, hln, hn, by omega⟩
theorem mMat_bd {G : Nat → Nat → Int} (h : 0 ≤ G 28 12 ∧ G 28 12 ≤ 8000) (o : Nat) : 64 * mMat G o ≤ G 28 12 + 56 := by
  have := (mCnt_range G o (((G 28 12).toNat + 56 - o) / 64)).2
  unfold mMat
  omega
/-- the lowest offset with the most, as far as it was looked for -/
def mTop (G : Nat → Nat → Int) (k b : Nat) (t : Int) : Prop := (k = 0 ∧ b = 0 ∧ t = 0) ∨ (0 < k ∧ b = mBest (mMat G) (k - 1) ∧ t = mMat G b)
theorem mTop_y {G : Nat → Nat → Int} {k b : Nat} {t : Int} (h : mTop G k b t) (h2 : t < mMat G k) : mTop G (k + 1) k (mMat G k) := by
  refine Or.inr ⟨by omega, ?_, rfl⟩
  rw [Nat.add_sub_cancel]
  rcases h with ⟨rfl, rfl, rfl⟩ | ⟨a, rfl, rfl⟩
  · rfl
  · obtain ⟨j, rfl⟩ : ∃ j, k = j + 1 := ⟨k - 1, by omega⟩
    rw [Nat.add_sub_cancel] at h2
    show _ = if _ then _ else _
    rw [if_pos h2]
theorem mTop_n {G : Nat → Nat → Int} {k b : Nat} {t : Int} (h : mTop G k b t) (h0 : 0 ≤ mMat G k) (h2 : ¬ t < mMat G k) : mTop G (k + 1) b t := by
  refine Or.inr ⟨by omega, ?_⟩
  rw [Nat.add_sub_cancel]
  rcases h with ⟨rfl, rfl, rfl⟩ | ⟨a, rfl, rfl⟩
  · refine ⟨rfl, ?_⟩
    omega
  · obtain ⟨j, rfl⟩ : ∃ j, k = j + 1 := ⟨k - 1, by omega⟩
    rw [Nat.add_sub_cancel] at h2 ⊢
    refine ⟨?_, rfl⟩
    show _ = if _ then _ else _
    rw [if_neg h2]
theorem mTop_end {G : Nat → Nat → Int} {b : Nat} {t : Int} (h : mTop G 64 b t) : b = mBest (mMat G) 63 := by
  rcases h with ⟨a, -, -⟩ | ⟨-, a, -⟩
  · omega
  · exact a
theorem due_y {p ph e f k : Int} {q : Nat} {d : Int} (hk : k = f + (q : Int)) (hd : d = mDue p ph e f q) (h : k % p = ph) : d + e = mDue p ph e f (q + 1) := by
  show _ = mDue p ph e f q + (if _ then _ else _)
  rw [← hk, if_pos h, hd]
theorem due_n {p ph e f k : Int} {q : Nat} {d : Int} (hk : k = f + (q : Int)) (hd : d = mDue p ph e f q) (h : ¬ k % p = ph) : d + 0 = mDue p ph e f (q + 1) := by
  show _ = mDue p ph e f q + (if _ then _ else _)
  rw [← hk, if_neg h, hd]
/-- the law's own rows -/
def LGR (A : Nat → Nat → Int32) (G : Nat → Nat → Int) (n : Nat) : Prop := ∀ i : Nat, i < n → A 28 (4 * i) = zI (G 29 i) ∧ A 28 (4 * i + 1) = zI (G 30 i) ∧ A 28 (4 * i + 2) = zI (G 31 i) ∧ A 28 (4 * i + 3) = zI (G 32 i)
theorem LGR.to {A A' : Nat → Nat → Int32} {G G' : Nat → Nat → Int} {n : Nat} (h : LGR A G n) (hA : A' 28 = A 28) (hG : ∀ k j, 29 ≤ k → k ≤ 32 → G' k j = G k j) : LGR A' G' n := fun i hi => by
  rw [hA, hG 29 i (by omega) (by omega), hG 30 i (by omega) (by omega), hG 31 i (by omega) (by omega), hG 32 i (by omega) (by omega)]
  exact h i hi
theorem gu_bit {G : Nat → Nat → Int} {j : Nat} {b : Int} (h : G 37 j = b) : gu (gu G 37 j (1 - b)) 37 j (1 - gu G 37 j (1 - b) 37 j) = G := by
  have e : gu G 37 j (1 - b) 37 j = 1 - b := by rw [gu_at, if_pos ⟨rfl, rfl⟩]
  rw [e]
  funext k j'
  rw [gu_at, gu_at]
  by_cases hk : k = 37 ∧ j' = j
  · rw [if_pos hk, hk.1, hk.2, h]; omega
  · rw [if_neg hk, if_neg hk]
/-- the third count of the law: the first frame, once it is told -/
def LC2 (G : Nat → Nat → Int) (c2 : Int) : Prop := c2 = -1 ∨ (G 28 21 ≠ 0 ∧ c2 = mFst G)
def LNo (G : Nat → Nat → Int) (noq : Nat) (fq nu : Int) : Prop := (noq = 1 ∧ G 28 21 = 0 ∧ fq = -1 ∧ nu = -5000000) ∨ (noq = 0 ∧ ¬ G 28 21 = 0 ∧ fq = mFst G ∧ nu = G 28 20)
def LKq (noq mN : Nat) (kD nu : Int) : Prop := (noq = 1 → mN = 0) ∧ (noq = 0 → kD ≤ nu + 1)
theorem TOk_at {G : Nat → Nat → Int} {i : Nat} (h : TOk G i) : (1 ≤ G 29 i ∧ G 29 i ≤ 12) ∧ (0 ≤ G 30 i ∧ G 30 i ≤ 3) ∧ (1 ≤ G 31 i ∧ G 31 i ≤ 4) ∧ (1 ≤ G 32 i ∧ G 32 i ≤ 2) ∧ (0 ≤ G 33 i ∧ G 33 i ≤ 3) ∧ (0 ≤ G 34 i ∧ G 34 i ≤ 47 ∧ 16 + G 34 i + 24 * (G 32 i - 1) ≤ 63) := by
  obtain ⟨h1, h2, h3, h4, h5, h6, h7, h8, h9, h10, h11, h12⟩ := h
  refine ⟨⟨h1, h2⟩, ⟨h3, h4⟩, by omega, by omega, by omega, by omega⟩
