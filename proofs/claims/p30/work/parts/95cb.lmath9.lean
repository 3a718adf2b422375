/-! ===== a whole frame ===== -/
def WI (G : Nat → Nat → Int) (f : Nat) : Prop := (G 28 9 = 8 * (f : Int) ∧ G 28 10 = 0 ∧ G 28 12 = 64 * (f : Int) ∧ G 28 22 = 0 ∧ G 28 23 = 0) ∧ (∀ i : Nat, (i : Int) < G 28 0 → G 42 i = 0) ∧ mCnt G 0 f = (f : Int) ∧ (f = 0 → G 28 14 = 0) ∧ (1 ≤ f → G 28 15 = 64 * ((f : Int) - 1)) ∧ (1 ≤ f → f < 3 → G 28 14 = 1 ∧ G 28 16 = (f : Int) ∧ G 28 18 = 0) ∧ (3 ≤ f → G 28 14 = 2 ∧ G 28 18 = 1 ∧ G 28 21 = (f : Int) - 2 ∧ G 28 19 = (f : Int) - 1 ∧ G 28 20 = (f : Int) - 1) ∧ (f < 3 → G 28 21 = 0)
theorem mBits_eq {G G' : Nat → Nat → Int} {fr : Nat} (w : Nat) (h : ∀ j, fr ≤ j → j < fr + w → G' 38 j = G 38 j) : mBits G' (fr : Int) w = mBits G (fr : Int) w := by
  induction w with
  | zero => rfl
  | succ w ih =>
    show 2 * mBits G' (fr : Int) w + G' 38 ((fr : Int) + (w : Int)).toNat = 2 * mBits G (fr : Int) w + G 38 ((fr : Int) + (w : Int)).toNat
    rw [ih (fun j a b => h j a (by omega)), h _ (by omega) (by omega)]
theorem mCnt_eq {G G' : Nat → Nat → Int} (f : Nat) (h : ∀ j, j < 64 * f → G' 38 j = G 38 j) : mCnt G' 0 f = mCnt G 0 f := by
  induction f with
  | zero => rfl
  | succ f ih =>
    show mCnt G' 0 f + (if mBits G' ((0 + 64 * f : Nat) : Int) 8 = 184 then 1 else 0) = mCnt G 0 f + (if mBits G ((0 + 64 * f : Nat) : Int) 8 = 184 then 1 else 0)
    rw [ih (fun j hj => h j (by omega)), mBits_eq 8 (fun j a b => h j (by omega))]
theorem WI.to {G G' : Nat → Nat → Int} {f : Nat} (h : WI G f) (h28 : ∀ j, G' 28 j = G 28 j) (h42 : ∀ j, G' 42 j = G 42 j) (h38 : ∀ j, G' 38 j = G 38 j) : WI G' f := by
  unfold WI at *
  rw [h28 9, h28 10, h28 12, h28 22, h28 23, h28 0, h28 14, h28 15, h28 16, h28 18, h28 21, h28 19, h28 20, mCnt_eq f (fun j _ => h38 j)]
  refine ⟨h.1, fun i hi => by rw [h42]; exact h.2.1 i hi, h.2.2⟩
/-- the first eight bits of a frame -/
theorem frame_8 {G : Nat → Nat → Int} {f : Nat} (hW : WI G f) (hf : f < 36) :
    (∀ k j, k ≠ 38 → k ≠ 28 → mRcv (mSend G 8) 8 k j = mSend G 8 k j) ∧ (∀ j, 19 ≤ j → mRcv (mSend G 8) 8 28 j = G 28 j) ∧ mRcv (mSend G 8) 8 28 15 = 64 * (f : Int) ∧ (f < 2 → mRcv (mSend G 8) 8 28 14 = 1 ∧ mRcv (mSend G 8) 8 28 16 = (f : Int) + 1 ∧ mRcv (mSend G 8) 8 28 18 = 0) ∧ (2 ≤ f → mRcv (mSend G 8) 8 28 14 = 2 ∧ mRcv (mSend G 8) 8 28 18 = 1) := by
  obtain ⟨⟨w9, w10, w12, w22, w23⟩, w42, wc, w0, w15, w13, w3, w21⟩ := hW
  have gS : ∀ j, j ≠ 9 → j ≠ 10 → mSend G 8 28 j = G 28 j := fun j a b => mSend_k G 8 (by decide) (by decide) (fun z => z.2.elim a b)
  have hsy : ∀ b : Nat, b < 8 → mSend G 8 37 b = tb 184 (7 - (b : Int)) := fun b hb => snd_sync w9 w10 (by omega) hb
  have h38 : ∀ q : Nat, q < 8 → mRcv (mSend G 8) 8 38 (64 * (f : Int) + (q : Int)).toNat = tb 184 (7 - (q : Int)) := by
    intro q hq
    rw [rcv_38 (by rw [gS 12 (by decide) (by decide)]; omega), gS 12 (by decide) (by decide), w12, if_pos (by omega), show (64 * (f : Int) + (q : Int)).toNat - (64 * (f : Int)).toNat = q from by omega]
    exact hsy q hq
  obtain ⟨b7, hb7⟩ : ∃ b, mSend G 8 37 7 = b := ⟨_, rfl⟩
  have e8 : mRcv (mSend G 8) 8 = mTake (mRcv (mSend G 8) 7) b7 := by rw [← hb7]; rfl
  by_cases hf0 : f = 0
  · subst hf0
    have q7 := fun {k j : Nat} => rcv_search (G := mSend G 8) (by rw [gS 14 (by decide) (by decide)]; exact w0 rfl) (by rw [gS 12 (by decide) (by decide), w12]; rfl) 7 (Nat.le_refl _) (k := k) (j := j)
    have hb : mBits (mT1 (mRcv (mSend G 8) 7) b7) 0 8 = 184 := by
      rw [← mBits_38 (G := mT1 (mRcv (mSend G 8) 7) b7) (G' := mRcv (mSend G 8) 8) (fun j => by rw [e8]; exact take_38 _ _ j)]
      exact mBits_of (k := 184) (by decide) (fun r hr => by have := h38 r hr; simpa using this)
    have e : mRcv (mSend G 8) 8 = gu (gu (gu (gu (mT1 (mRcv (mSend G 8) 7) b7) 28 14 1) 28 16 1) 28 15 0) 28 18 0 := by
      rw [e8]
      unfold mTake
      have t12 : mRcv (mSend G 8) 7 28 12 = 7 := by rw [mRcv_12, gS 12 (by decide) (by decide), w12]; rfl
      rw [if_pos (by rw [q7 (by decide) (by decide), gS 14 (by decide) (by decide)]; exact w0 rfl), t12, if_pos ⟨by decide, hb⟩]
      rfl
    refine ⟨fun k j a b => ?_, fun j hj => ?_, ?_, fun _ => ⟨?_, ?_, ?_⟩, fun z => by omega⟩
    · rw [e, gu_ne _ _ _ b, gu_ne _ _ _ b, gu_ne _ _ _ b, gu_ne _ _ _ b, mT1_k _ _ (by omega) (by omega), q7 a (by omega)]
    · rw [e]
      simp only [gu_at]
      rw [if_neg (by omega), if_neg (by omega), if_neg (by omega), if_neg (by omega), mT1_k _ _ (by omega) (by omega), q7 (by decide) (by omega), gS j (by omega) (by omega)]
    · rw [e]; simp [gu_at]
    · rw [e]; simp [gu_at]
    · rw [e]; simp [gu_at]
    · rw [e]; simp [gu_at]
  · have hp := w15 (by omega)
    have s14 : mSend G 8 28 14 ≠ 0 := by
      rw [gS 14 (by decide) (by decide)]
      by_cases h3 : f < 3
      · have := (w13 (by omega) h3).1; omega
      · have := (w3 (by omega)).1; omega
    have q7 := fun {k j : Nat} => rcv_quiet (G := mSend G 8) 0 s14 7 (fun r hr => by
      show mSend G 8 28 12 + ((0 : Nat) : Int) + (r : Int) + 1 - mSend G 8 28 15 ≠ 72 ∧ ¬ (mSend G 8 28 12 + ((0 : Nat) : Int) + (r : Int) + 1 - mSend G 8 28 15 = 64 ∧ mSend G 8 28 18 ≠ 0)
      rw [gS 12 (by decide) (by decide), gS 15 (by decide) (by decide), w12, hp]
      omega) (k := k) (j := j)
    have q7' : ∀ {k j : Nat}, k ≠ 38 → ¬ (k = 28 ∧ j = 12) → mRcv (mSend G 8) 7 k j = mSend G 8 k j := fun {k j} a b => q7 a b
    have t12 : mRcv (mSend G 8) 7 28 12 = 64 * (f : Int) + 7 := by rw [mRcv_12, gS 12 (by decide) (by decide), w12]; rfl
    have t15 : mRcv (mSend G 8) 7 28 15 = 64 * ((f : Int) - 1) := by rw [q7' (by decide) (by decide), gS 15 (by decide) (by decide)]; exact hp
    obtain ⟨Y, hY⟩ : ∃ Y, gu (mT1 (mRcv (mSend G 8) 7) b7) 28 15 (mRcv (mSend G 8) 7 28 15 + 64) = Y := ⟨_, rfl⟩
    have e : mRcv (mSend G 8) 8 = mCmp Y := by
      rw [e8, ← hY]
      unfold mTake
      rw [if_neg (by rw [q7' (by decide) (by decide)]; exact s14), if_pos (by rw [t12, t15]; omega)]
    have yk : ∀ k j, k ≠ 38 → ¬ (k = 28 ∧ (j = 12 ∨ j = 15)) → Y k j = mSend G 8 k j := fun k j a b => by
      rw [← hY, gu_at, if_neg (by omega), mT1_k _ _ (by omega) (by omega), q7' a (by omega)]
    have y15 : Y 28 15 = 64 * (f : Int) := by rw [← hY, gu_at, if_pos ⟨rfl, rfl⟩, t15]; omega
    have hw : mWrong Y 8 = 0 := wrong_0 (fun q hq => by
      rw [y15, ← h38 q hq, e8, take_38, ← hY, gu_ne _ _ _ (by decide)])
    have y14 : Y 28 14 = G 28 14 := (yk 28 14 (by decide) (by omega)).trans (gS 14 (by decide) (by decide))
    have y16 : Y 28 16 = G 28 16 := (yk 28 16 (by decide) (by omega)).trans (gS 16 (by decide) (by decide))
    have ck : ∀ k j, ¬ (k = 28 ∧ (j = 14 ∨ j = 16 ∨ j = 17 ∨ j = 18)) → mCmp Y k j = Y k j := fun k j a => mCmp_k Y a
    rw [e]
    refine ⟨fun k j a b => by rw [ck k j (by omega), yk k j a (by omega)], fun j hj => by rw [ck 28 j (by omega), yk 28 j (by decide) (by omega), gS j (by omega) (by omega)], by rw [ck 28 15 (by omega)]; exact y15, fun h2 => ?_, fun h2 => ?_⟩
    · obtain ⟨a, b, c⟩ := w13 (by omega) (by omega)
      have m1 : mMt Y = 2 := by unfold mMt; rw [hw, if_pos rfl, y16, b]; omega
      have m2 : mStC Y = 1 := by unfold mStC; rw [hw, m1]; rfl
      unfold mCmp
      rw [y14, a, if_pos rfl, m1, m2]
      refine ⟨by simp [gu_at], by simp [gu_at]; omega, by simp [gu_at, mDec]⟩
    · by_cases h3 : f < 3
      · obtain ⟨a, b, c⟩ := w13 (by omega) h3
        have m1 : mMt Y = 3 := by unfold mMt; rw [hw, if_pos rfl, y16, b]; omega
        have m2 : mStC Y = 2 := by unfold mStC; rw [hw, m1]; rfl
        unfold mCmp
        rw [y14, a, if_pos rfl, m1, m2]
        refine ⟨by simp [gu_at], by simp [gu_at, mDec]⟩
      · obtain ⟨a, b, c⟩ := w3 (by omega)
        have m1 : mMs Y = 0 := by unfold mMs; rw [hw]; rfl
        have m2 : mStL Y = 2 := by unfold mStL; rw [m1]; rfl
        unfold mCmp
        rw [y14, a, if_neg (by decide), m2]
        refine ⟨by simp [gu_at], by simp [gu_at, mDec]⟩
