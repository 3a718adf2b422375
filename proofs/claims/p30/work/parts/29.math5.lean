/-! ===== sending, comparing, decoding ===== -/
theorem mSW_k (G : Nat → Nat → Int) {k j : Nat} (h1 : k ≠ 36) (h2 : k ≠ 37) (h3 : ¬ (k = 28 ∧ (j = 9 ∨ j = 10))) : mSW G k j = G k j := by
  simp only [mSW, mSW2, mSW1, gu_at, gr_at]
  rw [if_neg (by omega), if_neg (by omega), if_neg h2, if_neg h1]
theorem mSW_9 (G : Nat → Nat → Int) : mSW G 28 9 = G 28 9 + 1 := rfl
theorem mSW_10 (G : Nat → Nat → Int) : mSW G 28 10 = G 28 10 + 8 := rfl
theorem mSW_36 (G : Nat → Nat → Int) (j : Nat) : mSW G 36 j = mSnd G (mCtr G) (mWd G) (2 * (G 28 0).toNat) j := rfl
def mSend (G : Nat → Nat → Int) : Nat → Nat → Nat → Int
  | 0 => G
  | q + 1 => mSW (mSend G q)
theorem TsOk.to {G G' : Nat → Nat → Int} (h : TsOk G) (h0 : G' 28 0 = G 28 0) (h1 : ∀ k j, 29 ≤ k → k ≤ 34 → G' k j = G k j) : TsOk G' := by
  refine ⟨by rw [h0]; exact h.1, by rw [h0]; exact h.2.1, fun i hi => ?_⟩
  have := h.2.2 i (by rw [← h0]; exact hi)
  simp only [TOk, h1 29 i (by omega) (by omega), h1 30 i (by omega) (by omega), h1 31 i (by omega) (by omega), h1 32 i (by omega) (by omega), h1 33 i (by omega) (by omega), h1 34 i (by omega) (by omega)]
  exact this
theorem mPres.to {G G' : Nat → Nat → Int} (h : mPres G) (h0 : G' 28 0 = G 28 0) (h1 : ∀ k j, 29 ≤ k → k ≤ 35 → G' k j = G k j) : mPres G' := fun i hi => by
  have := h i (by rw [← h0]; exact hi)
  rw [h1 30 i (by omega) (by omega), h1 29 i (by omega) (by omega), h1 35 i (by omega) (by omega)]
  exact this
theorem mSend_ok {G : Nat → Nat → Int} (hT : TsOk G) (hp : mPres G) (hs : mSndOk G) (q : Nat) : TsOk (mSend G q) ∧ mPres (mSend G q) ∧ mSndOk (mSend G q) ∧ mSend G q 28 9 = G 28 9 + q ∧ mSend G q 28 10 = G 28 10 + 8 * q := by
  induction q with
  | zero => exact ⟨hT, hp, hs, by simp [mSend], by simp [mSend]⟩
  | succ q ih =>
    obtain ⟨a, b, c, d, e⟩ := ih
    refine ⟨a.to (mSW_k _ (by omega) (by omega) (by omega)) (fun k j h1 h2 => mSW_k _ (by omega) (by omega) (by omega)), b.to (mSW_k _ (by omega) (by omega) (by omega)) (fun k j h1 h2 => mSW_k _ (by omega) (by omega) (by omega)), fun j => ?_, ?_, ?_⟩
    · show 0 ≤ mSnd _ _ _ _ j ∧ mSnd _ _ _ _ j < 4096
      exact mSnd_range a c b _ _ (by have := a.1; omega) j
    · show mSend G q 28 9 + 1 = _
      rw [d]; omega
    · show mSend G q 28 10 + 8 = _
      rw [e]; omega
def mWrong (G : Nat → Nat → Int) : Nat → Int
  | 0 => 0
  | q + 1 => mWrong G q + (if G 38 (G 28 15 + (q : Int)).toNat = tb 184 (7 - (q : Int)) then 0 else 1)
theorem mWrong_range (G : Nat → Nat → Int) (q : Nat) : 0 ≤ mWrong G q ∧ mWrong G q ≤ q := by
  induction q with
  | zero => exact ⟨Int.le_refl _, by simp [mWrong]⟩
  | succ q ih => simp only [mWrong]; split <;> omega
def mMt (G : Nat → Nat → Int) : Int := G 28 16 + (if mWrong G 8 = 0 then 1 else 0)
def mMs (G : Nat → Nat → Int) : Int := if mWrong G 8 ≤ 1 then 0 else G 28 17 + 1
def mStC (G : Nat → Nat → Int) : Int := if 0 < mWrong G 8 then 0 else if mMt G = 3 then 2 else 1
def mStL (G : Nat → Nat → Int) : Int := if mMs G = 2 then 0 else 2
def mDec (s : Int) : Int := if s = 2 then 1 else 0
/-- a first word is compared -/
def mCmp (G : Nat → Nat → Int) : Nat → Nat → Int :=
  if G 28 14 = 1 then gu (gu (gu (gu G 28 16 (mMt G)) 28 14 (mStC G)) 28 17 0) 28 18 (mDec (mStC G))
  else gu (gu (gu G 28 17 (mMs G)) 28 14 (mStL G)) 28 18 (mDec (mStL G))
def mAt (G : Nat → Nat → Int) (k : Nat) (e : Int) : Int := 16 + G 34 k + 24 * e
def mVal (G : Nat → Nat → Int) (k : Nat) (e : Int) : Int := gDec (G 30 k) (G 29 k) (mBits G (G 28 15 + mAt G k e) (G 29 k).toNat)
def mSamp (G : Nat → Nat → Int) (k : Nat) (e : Int) : Nat → Nat → Int := gu (gu (gu G 39 k (mVal G k e)) 40 k (64 * G 28 20 + mAt G k e)) 41 k (G 41 k + 1)
