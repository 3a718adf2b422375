/-! ===== the derived points: after eight passes nothing more can be computed ===== -/
def kN (G : Nat → Nat → Int) : Nat → Nat
  | 0 => 0
  | k + 1 => kN G k + (if G 46 k = 1 then 1 else 0)
theorem kN_le (G : Nat → Nat → Int) (k : Nat) : kN G k ≤ k := by
  induction k with
  | zero => exact Nat.le_refl _
  | succ k ih =>
    show kN G k + (if G 46 k = 1 then 1 else 0) ≤ k + 1
    split <;> omega
theorem kN_full {G : Nat → Nat → Int} (k : Nat) (h : k ≤ kN G k) : ∀ i, i < k → G 46 i = 1 := by
  induction k with
  | zero => intro i hi; omega
  | succ k ih =>
    intro i hi
    have h1 := kN_le G k
    have h2 : kN G (k + 1) = kN G k + (if G 46 k = 1 then 1 else 0) := rfl
    by_cases hk : G 46 k = 1
    · rw [if_pos hk] at h2
      by_cases he : i = k
      · rw [he]; exact hk
      · exact ih (by omega) i (by omega)
    · rw [if_neg hk] at h2; omega
theorem kN_mono {G H : Nat → Nat → Int} (h : ∀ i, G 46 i = 1 → H 46 i = 1) (k : Nat) : kN G k ≤ kN H k := by
  induction k with
  | zero => exact Nat.le_refl _
  | succ k ih =>
    show kN G k + (if G 46 k = 1 then 1 else 0) ≤ kN H k + (if H 46 k = 1 then 1 else 0)
    by_cases hk : G 46 k = 1
    · rw [if_pos hk, if_pos (h k hk)]; omega
    · rw [if_neg hk]; omega
theorem kN_lt {G H : Nat → Nat → Int} (h : ∀ i, G 46 i = 1 → H 46 i = 1) {j : Nat} (hg : G 46 j ≠ 1) (hh : H 46 j = 1) (k : Nat) (hj : j < k) : kN G k < kN H k := by
  induction k with
  | zero => omega
  | succ k ih =>
    show kN G k + (if G 46 k = 1 then 1 else 0) < kN H k + (if H 46 k = 1 then 1 else 0)
    by_cases he : j = k
    · subst he
      have := kN_mono h j
      rw [if_neg hg, if_pos hh]; omega
    · have := ih (by omega)
      by_cases hk : G 46 k = 1
      · rw [if_pos hk, if_pos (h k hk)]; omega
      · rw [if_neg hk]; omega
theorem Der1_c {G : Nat → Nat → Int} (h : gInv G) {k : Nat} (hk : k < 8) : mDer1 G k = G ∨ kN G 8 < kN (mDer1 G k) 8 := by
  by_cases hc : mCan G k
  · by_cases h1 : G 46 k = 1
    · exact Or.inl (Der1_k h hk h1)
    · refine Or.inr (kN_lt (j := k) (fun i hi => ?_) h1 ?_ 8 hk)
      · rw [Der1_y hc, gu_ne _ _ _ (by decide), gu_ne _ _ _ (by decide), gu_at]
        by_cases hik : i = k
        · rw [if_pos ⟨rfl, hik⟩]
        · rw [if_neg (fun z => hik z.2)]; exact hi
      · rw [Der1_y hc, gu_ne _ _ _ (by decide), gu_ne _ _ _ (by decide), gu_at, if_pos ⟨rfl, rfl⟩]
  · exact Or.inl (Der1_n hc)
theorem DerK_c {G H : Nat → Nat → Int} (hd : mDvOk G) (h : gSt G H) (k : Nat) (hk : k ≤ 8) : mDerK H k = H ∨ kN H 8 < kN (mDerK H k) 8 := by
  induction k with
  | zero => exact Or.inl rfl
  | succ k ih =>
    show mDer1 (mDerK H k) k = H ∨ kN H 8 < kN (mDer1 (mDerK H k) k) 8
    have h1 := Der1_c (h.derK hd k (by omega)).2.2 (k := k) (by omega)
    rcases ih (by omega) with e | e
    · rw [e] at h1 ⊢
      exact h1
    · rcases h1 with e1 | e1
      · rw [e1]; exact Or.inr e
      · exact Or.inr (Nat.lt_trans e e1)
theorem DerK_m {G H : Nat → Nat → Int} (hd : mDvOk G) (h : gSt G H) (k j : Nat) (hk : k + j ≤ 8) : kN (mDerK H k) 8 ≤ kN (mDerK H (k + j)) 8 := by
  induction j with
  | zero => exact Nat.le_refl _
  | succ j ih =>
    refine Nat.le_trans (ih (by omega)) ?_
    show _ ≤ kN (mDer1 (mDerK H (k + j)) (k + j)) 8
    rcases Der1_c (h.derK hd (k + j) (by omega)).2.2 (k := k + j) (by omega) with e | e
    · rw [e]; exact Nat.le_refl _
    · exact Nat.le_of_lt e
theorem DerR_c {G H : Nat → Nat → Int} (hd : mDvOk G) (h : gSt G H) (r : Nat) : mDerK (mDerR H r) 8 = mDerR H r ∨ r ≤ kN (mDerR H r) 8 := by
  induction r with
  | zero => exact Or.inr (Nat.zero_le _)
  | succ r ih =>
    show mDerK (mDerK (mDerR H r) 8) 8 = mDerK (mDerR H r) 8 ∨ r + 1 ≤ kN (mDerK (mDerR H r) 8) 8
    rcases ih with e | e
    · rw [e, e]; exact Or.inl rfl
    · rcases DerK_c hd (h.derR hd r) 8 (Nat.le_refl _) with e1 | e1
      · rw [e1, e1]; exact Or.inl rfl
      · exact Or.inr (by omega)
theorem Ders_st {G : Nat → Nat → Int} (hd : mDvOk G) (hr : mDrOk G) : gSt G (mDers G) := (gSt.clr hr).derR hd 8
/-- what has its operands is known, what is known is made of them -/
theorem Ders_fix {G : Nat → Nat → Int} (hd : mDvOk G) (hr : mDrOk G) {k : Nat} (hk : k < 8) : (mDers G 46 k = 1 ↔ mCan (mDers G) k) ∧ (mDers G 46 k = 1 → mDers G 47 k = mVl (mDers G) k ∧ mDers G 48 k = mTm (mDers G) k) := by
  have hs := Ders_st hd hr
  have hi := hs.2.2
  refine ⟨⟨fun h => (hi k hk h).1, fun h => ?_⟩, fun h => (hi k hk h).2⟩
  rcases DerR_c hd (gSt.clr hr) 8 with e | e
  · have e9 : mDerK (mDers G) 8 = mDers G := e
    have hfix : ∀ j, j ≤ 8 → mDerK (mDers G) j = mDers G := by
      intro j hj
      rcases DerK_c hd hs j hj with e1 | e1
      · exact e1
      · have := DerK_m hd hs j (8 - j) (by omega)
        rw [show j + (8 - j) = 8 from by omega, e9] at this
        omega
    have h1 : mDer1 (mDers G) k = mDers G := by
      have h2 : mDerK (mDers G) (k + 1) = mDer1 (mDerK (mDers G) k) k := rfl
      rw [hfix (k + 1) (by omega), hfix k (by omega)] at h2
      exact h2.symm
    rw [← h1, Der1_y h, gu_ne _ _ _ (by decide), gu_ne _ _ _ (by decide), gu_at, if_pos ⟨rfl, rfl⟩]
  · exact kN_full 8 e k hk
