theorem gHf_pow {w : Int} (h : 1 ≤ w) (h2 : w ≤ 12) : 2 * gHf w = 2 ^ w.toNat := by
  rcases w_cases h h2 with e | e | e | e | e | e | e | e | e | e | e | e <;> subst e <;> decide
theorem or47 : ∀ v : Nat, v < 256 → (47104 : Int32) ||| nI v = nI (47104 + v) := by decide +kernel
theorem fr_bit {F : Int64} {s x : Int} (h0 : 0 ≤ s) (h1 : s < 64) (hx : x = 0 ∨ x = 1) (h : (lnat F).testBit s.toNat = true ↔ x = 1) : (gushr F (zI s)).toInt32 &&& nI 1 = zI x := by
  rw [ln_low _ 1 (by decide) (by decide), zI_nat h0, ln_ushr _ (by omega)]
  rw [Nat.testBit_eq_decide_div_mod_eq, decide_eq_true_iff] at h
  rcases hx with rfl | rfl
  · have : lnat F / 2 ^ s.toNat % 2 ^ 1 = 0 := by
      have h5 : ¬ lnat F / 2 ^ s.toNat % 2 = 1 := fun z => absurd (h.mp z) (by decide)
      rw [Nat.pow_one]; omega
    rw [this]; rfl
  · have : lnat F / 2 ^ s.toNat % 2 ^ 1 = 1 := by
      rw [Nat.pow_one]; exact h.mpr rfl
    rw [this]; rfl
theorem FrS.to {F : Int64} {G G' : Nat → Nat → Int} {c wd : Int} {q : Nat} {E : Nat → Int} (h : FrS F G c wd q E) (h0 : G' 28 0 = G 28 0) (h1 : ∀ k j, 29 ≤ k → k ≤ 34 → G' k j = G k j) : FrS F G' c wd q E := by
  have a : ∀ j, sAt G' j = sAt G j := fun j => by unfold sAt; rw [h1 34 _ (by omega) (by omega)]
  have b : ∀ j, sndK G' c wd q j ↔ sndK G c wd q j := fun j => by unfold sndK; rw [h0, a, h1 31 _ (by omega) (by omega), h1 32 _ (by omega) (by omega), h1 33 _ (by omega) (by omega)]
  have d : ∀ j b, sCov G' E j b ↔ sCov G E j b := fun j b => by unfold sCov; rw [a, h1 29 _ (by omega) (by omega)]
  intro x hx
  rw [h x hx]
  simp only [b, d]
theorem mDisj.to {G G' : Nat → Nat → Int} (h : mDisj G) (h0 : G' 28 0 = G 28 0) (h1 : ∀ k j, 29 ≤ k → k ≤ 34 → G' k j = G k j) : mDisj G' := by
  intro c b i j hi hj ci cj
  have e : ∀ k, mCov G' c b k → mCov G c b k := fun k z => by
    unfold mCov at *
    rw [h1 31 _ (by omega) (by omega), h1 33 _ (by omega) (by omega), h1 34 _ (by omega) (by omega), h1 29 _ (by omega) (by omega), h1 32 _ (by omega) (by omega)] at z
    exact z
  exact h c b i j (by rw [← h0]; exact hi) (by rw [← h0]; exact hj) (e i ci) (e j cj)
/-- the line -/
def CLi (A : Nat → Nat → Int32) (G : Nat → Nat → Int) (hq : Nat) : Prop := A 4 1 = nI hq ∧ A 4 2 = nI (hq + (G 28 10).toNat) ∧ ∀ j, j < (G 28 10).toNat → A 5 (hq + j) = zI (G 37 j)
def CSe (A : Nat → Nat → Int32) (J : Nat → Nat → Int64) (G : Nat → Nat → Int) : Prop := A 6 0 = zI (G 28 9) ∧ (G 28 9 % 8 ≠ 0 → FrS (J 6 1) G (mCtr G) (mWd G) 0 (G 36))
theorem SW1_k (G : Nat → Nat → Int) {k : Nat} (j : Nat) (h : k ≠ 36) : mSW1 G k j = G k j := by unfold mSW1; rw [gr_ne _ _ h]
theorem SW2_10 (G : Nat → Nat → Int) (q : Nat) : mSW2 G (mSW1 G) q 28 10 = G 28 10 + (q : Int) := rfl
theorem SW2_37 (G : Nat → Nat → Int) (q j : Nat) : mSW2 G (mSW1 G) q 37 j = if G 28 10 ≤ (j : Int) ∧ (j : Int) < G 28 10 + (q : Int) then mBit (mSW1 G) (mCtr G) (8 * mWd G + ((j : Int) - G 28 10)) else G 37 j := by
  unfold mSW2
  rw [gu_ne _ _ _ (by decide), gr_self]
theorem CLi_0 {A : Nat → Nat → Int32} {G : Nat → Nat → Int} {hq : Nat} (h0 : 0 ≤ G 28 10) (h : CLi A G hq) : CLi A (mSW2 G (mSW1 G) 0) hq := by
  obtain ⟨a, b, c⟩ := h
  refine ⟨a, ?_, fun j hj => ?_⟩
  · rw [SW2_10]; simpa using b
  · rw [SW2_10] at hj
    rw [SW2_37, if_neg (by omega)]
    exact c j (by omega)
theorem CLi_s {A : Nat → Nat → Int32} {G : Nat → Nat → Int} {hq q : Nat} {x : Int} (h0 : 0 ≤ G 28 10) (h : CLi A (mSW2 G (mSW1 G) q) hq) (hx : x = mBit (mSW1 G) (mCtr G) (8 * mWd G + (q : Int))) : CLi (gu (gu A 5 (hq + (G 28 10).toNat + q) (zI x)) 4 2 (nI (hq + (G 28 10).toNat + q + 1))) (mSW2 G (mSW1 G) (q + 1)) hq := by
  obtain ⟨a, b, c⟩ := h
  refine ⟨a, ?_, fun j hj => ?_⟩
  · rw [SW2_10, gu_at, if_pos ⟨rfl, rfl⟩]
    congr 1
    omega
  · rw [SW2_10] at hj
    rw [gu_ne _ _ _ (by decide), gu_at, SW2_37]
    by_cases e : j = (G 28 10).toNat + q
    · rw [if_pos ⟨rfl, by omega⟩, if_pos (by omega), hx]
      congr 2
      omega
    · rw [if_neg (by omega), c j (by rw [SW2_10]; omega), SW2_37]
      congr 1
      by_cases e2 : G 28 10 ≤ (j : Int) ∧ (j : Int) < G 28 10 + (q : Int)
      · rw [if_pos e2, if_pos (by omega)]
      · rw [if_neg e2, if_neg (by omega)]
