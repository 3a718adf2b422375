/-! ===== the beginning ===== -/
def A00 : Nat → Nat → Int32 := fun _ _ => 0
def G00 : Nat → Nat → Int := fun k j => if (k = 28 ∧ (j = 15 ∨ j = 19)) ∨ (k = 43 ∧ j < 8) then -1 else 0
theorem G00_z {k j : Nat} (h : ¬ ((k = 28 ∧ (j = 15 ∨ j = 19)) ∨ (k = 43 ∧ j < 8))) : G00 k j = 0 := if_neg h
theorem A00_z {k j : Nat} (_ : ¬ ((k = 28 ∧ (j = 15 ∨ j = 19)) ∨ (k = 43 ∧ j < 8))) : A00 k j = 0 := rfl
theorem mMat_00 (o : Nat) : mMat G00 o = 0 := by
  unfold mMat
  rw [G00_z (by omega), show ((0 : Int).toNat + 56 - o) / 64 = 0 from by show (0 + 56 - o) / 64 = 0; omega]
  rfl
theorem CAll.zero : CAll 0 A00 (fun _ _ => 0) G00 := by
  have hT : TsOk G00 := ⟨by rw [G00_z (by omega)]; omega, by rw [G00_z (by omega)]; omega, fun i hi => by rw [G00_z (by omega)] at hi; omega⟩
  have hz : lnat 0 = 0 := by decide
  refine ⟨⟨A00_z (by omega), by omega⟩, by rw [G00_z (by omega)]; rfl, hT, fun i hi => absurd hi (Nat.not_lt_zero _), fun i hi => by rw [G00_z (by omega)] at hi; omega, fun i _ => G00_z (by omega), fun r hr i => ?_, fun c9 b i j hi => by rw [G00_z (by omega)] at hi; omega, fun j => by rw [G00_z (by omega)]; omega, ⟨?_, fun z => ?_⟩, ⟨?_, ?_, fun j hj => ?_⟩, ⟨?_, ?_, fun q hq => ?_, fun z => ?_, fun z => ?_, fun z => ?_, fun o ho => ?_⟩, ⟨?_, ?_, ?_, fun z => ?_⟩, fun i hi => ⟨fun _ => A00_z (by omega), fun z => ?_⟩, ⟨hT, fun j => Or.inl (G00_z (by omega)), by rw [G00_z (by omega)]; omega, Or.inl (G00_z (by omega)), ?_, fun i => ?_⟩, fun i => ?_, fun i => ?_, by rw [G00_z (by omega)]; omega, by rw [G00_z (j := 10) (by omega), G00_z (j := 12) (by omega), G00_z (j := 9) (by omega)]; omega, fun j => Or.inl (G00_z (by omega))⟩
  · rw [hz, Nat.zero_testBit, G00_z (by omega)]
    constructor
    · intro h9; exact absurd h9 (by decide)
    · rintro ⟨-, h9⟩; exact absurd rfl h9
  · rw [G00_z (by omega), A00_z (by omega)]; rfl
  · rw [G00_z (by omega)] at z; exact absurd rfl z
  · rw [A00_z (by omega), G00_z (by omega)]; rfl
  · rw [A00_z (by omega), G00_z (j := 12) (by omega), G00_z (j := 10) (by omega)]; rfl
  · rw [G00_z (by omega)] at hj; exact absurd hj (Nat.not_lt_zero _)
  · rw [A00_z (by omega), G00_z (by omega)]; rfl
  · rw [A00_z (by omega), G00_z (by omega)]; rfl
  · rw [hz, Nat.zero_testBit, G00_z (k := 28) (by omega)]
    constructor
    · intro h9; exact absurd h9 (by decide)
    · rintro ⟨h9, -⟩; omega
  · rw [G00_z (by omega)] at z; exact absurd rfl z
  · rw [G00_z (by omega)] at z; exact absurd z (by decide)
  · rw [G00_z (by omega)] at z; exact absurd z (by decide)
  · rw [A00_z (by omega), mMat_00]; rfl
  · rw [A00_z (by omega), G00_z (by omega)]; rfl
  · rw [A00_z (by omega), G00_z (by omega)]; rfl
  · rw [A00_z (by omega), G00_z (by omega)]; rfl
  · rw [G00_z (by omega)] at z; exact absurd rfl z
  · exfalso
    apply z
    unfold G00
    rw [if_pos (Or.inr ⟨rfl, hi⟩)]
  · have e19 : G00 28 19 = -1 := by unfold G00; rw [if_pos (Or.inl ⟨rfl, Or.inr rfl⟩)]
    rw [mNrOk, mCtrOk, e19, G00_z (j := 16) (by omega), G00_z (j := 12) (by omega), G00_z (j := 17) (by omega), G00_z (j := 18) (by omega), G00_z (j := 20) (by omega), G00_z (j := 21) (by omega), G00_z (j := 22) (by omega), G00_z (j := 23) (by omega)]
    omega
  · rw [G00_z (k := 41) (by omega), G00_z (k := 42) (by omega), G00_z (j := 21) (by omega), G00_z (j := 22) (by omega)]
    omega
  · refine ⟨?_, ?_, ?_⟩
    · unfold G00
      split
      · exact Or.inl rfl
      · exact Or.inr (by omega)
    · rw [G00_z (by omega)]; exact Or.inl (by omega)
    · rw [G00_z (by omega)]; exact Or.inl (by omega)
  · rw [G00_z (k := 46) (by omega), G00_z (k := 47) (by omega), G00_z (k := 48) (by omega), G00_z (k := 39) (by omega), G00_z (k := 40) (by omega)]
    omega
theorem gC_lo {cy : Nat → ClassId} {ad ad1 : Nat → Nat} (e : ∀ q, q < 28 → ad1 q = ad q) {k : Nat} (hk : k < 28) (a : Nat → Int32) (j : Nat → Int64) : gC cy ad1 0 k a j = gC cy ad 0 k a j := by
  unfold gC
  by_cases h1 : k < 12
  · rw [if_pos h1, if_pos h1]
    have h9 : k = 0 ∨ k = 1 ∨ k = 2 ∨ k = 3 ∨ k = 4 ∨ k = 5 ∨ k = 6 ∨ k = 7 ∨ k = 8 ∨ k = 9 ∨ k = 10 ∨ k = 11 := by omega
    rcases h9 with rfl | rfl | rfl | rfl | rfl | rfl | rfl | rfl | rfl | rfl | rfl | rfl
    · show (Sum.inr (9, [.ref (ad1 1), .ref (ad1 4), .ref (ad1 6), .ref (ad1 7), .ref (ad1 9), .ref (ad1 10)]) : va_E) = _
      rw [e 1 (by omega), e 4 (by omega), e 6 (by omega), e 7 (by omega), e 9 (by omega), e 10 (by omega)]
      rfl
    · show (Sum.inr (5, [.ref (ad1 2), .int (a 1), .ref (ad1 3)]) : va_E) = _
      rw [e 2 (by omega), e 3 (by omega)]
      rfl
    · show (Sum.inl (cy 4, 12, .inr (.inr (.inr (.inr (fun i => if i < 0 then some (ad1 (33 + 2 * i)) else none))))) : va_E) = Sum.inl (cy 4, 12, .inr (.inr (.inr (.inr (fun i => if i < 0 then some (ad (33 + 2 * i)) else none)))))
      simp only [Nat.not_lt_zero, if_false]
    · rfl
    · show (Sum.inr (3, [.ref (ad1 5), .int (a 1), .int (a 2)]) : va_E) = _
      rw [e 5 (by omega)]
      rfl
    · rfl
    · rfl
    · show (Sum.inr (8, [.int (a 0), .int (a 1), .long (j 2), .int (a 3), .int (a 4), .int (a 5), .ref (ad1 8)]) : va_E) = _
      rw [e 8 (by omega)]
      rfl
    · rfl
    · rfl
    · show (Sum.inr (2, [.ref (ad1 11)]) : va_E) = _
      rw [e 11 (by omega)]
      rfl
    · show (Sum.inl (cy 3, 8, .inr (.inr (.inr (.inr (fun i => if i < 8 then some (ad1 (12 + 2 * i)) else none))))) : va_E) = Sum.inl (cy 3, 8, .inr (.inr (.inr (.inr (fun i => if i < 8 then some (ad (12 + 2 * i)) else none)))))
      have hf : (fun i => if i < 8 then some (ad1 (12 + 2 * i)) else none) = (fun i => if i < 8 then some (ad (12 + 2 * i)) else none) := by
        funext i
        by_cases hi : i < 8
        · rw [if_pos hi, if_pos hi, e _ (by omega)]
        · rw [if_neg hi, if_neg hi]
      rw [hf]
  · rw [if_neg h1, if_neg h1, if_pos hk, if_pos hk]
    by_cases h3 : k % 2 = 0
    · rw [if_pos h3, if_pos h3]
      unfold gDv
      rw [e _ (by omega)]
    · rw [if_neg h3, if_neg h3]
theorem LI.zero : LI 0 (gu A00 31 2 (zI (-1))) (fun _ _ => 0) G00 := by
  have hz := zero_of CAll.zero (by rw [G00_z (by omega)])
  refine ⟨CAll.zero.of (fun k hk => gu_ne _ _ _ (by omega)), fun i hi => absurd hi (Nat.not_lt_zero _), fun i hi => ?_, fun k hk => ?_, mRI_0 hz.1.2.2.1 ⟨hz.1.2.2.2.1, hz.1.2.2.2.2.1⟩ (fun i => (hz.2 i).1), 0, -1, ?_, ?_, ?_, Or.inl rfl, ?_⟩
  · rw [gu_ne _ _ _ (by decide), G00_z (by omega)]; rfl
  · rw [gu_ne _ _ _ (by decide)]
    unfold dN
    rw [if_pos (by unfold G00; rw [if_pos (Or.inr ⟨rfl, hk⟩)])]
    rfl
  · rw [gu_at, if_neg (by omega), G00_z (by omega)]; rfl
  · rw [gu_at, if_neg (by omega)]; rfl
  · rw [gu_at, if_pos ⟨rfl, rfl⟩]
  · rw [G00_z (j := 10) (by omega), G00_z (j := 12) (by omega), G00_z (j := 9) (by omega)]; omega
theorem gC_law {cy : Nat → ClassId} {ad ad1 : Nat → Nat} {k : Nat} (hk : 28 ≤ k) (hk2 : k < 33) (a : Nat → Int32) (j : Nat → Int64) : gC cy ad1 0 k a j = gC cy ad 0 k a j := by
  unfold gC
  simp only [show ¬ k < 12 from by omega, show ¬ k < 28 from by omega, hk2, if_false, if_true]
