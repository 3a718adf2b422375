/-! ===== the check's state as numbers: cell k of it (28 to 48), place j ===== -/
theorem zI_ne0 {z : Int} (h : 0 < z) (h2 : z < 2147483648) : ¬ zI z = 0 := fun q => by
  have h1 := zI_toInt (z := z) (by omega) h2
  rw [q, Int32.toInt_zero] at h1
  omega
theorem zI_rem {a b : Int} (h0 : 0 ≤ a) (h1 : a < 2147483648) (h2 : 0 < b) (h3 : b < 2147483648) : zI a - zI a / zI b * zI b = zI (a % b) := by
  rw [zI_nat h0, zI_nat (Int.le_of_lt h2), pk_rem (by omega) (by omega) (by omega), ← zI_n]
  congr 1
  rw [Int.natCast_emod, Int.toNat_of_nonneg h0, Int.toNat_of_nonneg (Int.le_of_lt h2)]
theorem zI_div {a b : Int} (h0 : 0 ≤ a) (h1 : a < 2147483648) (h2 : 0 < b) (h3 : b < 2147483648) : zI a / zI b = zI (a / b) := by
  rw [zI_nat h0, zI_nat (Int.le_of_lt h2), pk_div (by omega) (by omega) (by omega), ← zI_n]
  congr 1
  rw [Int.natCast_ediv, Int.toNat_of_nonneg h0, Int.toNat_of_nonneg (Int.le_of_lt h2)]
/-- but for the fault of the last call, (28, 34) -/
def MRep (A : Nat → Nat → Int32) (G : Nat → Nat → Int) : Prop := ∀ k j, 28 ≤ k → k < 49 → ¬ (k = 28 ∧ j = 34) → A k j = zI (G k j)
theorem MRep.up {A : Nat → Nat → Int32} {G : Nat → Nat → Int} (h : MRep A G) (k j : Nat) (x : Int) : MRep (gu A k j (zI x)) (gu G k j x) := by
  intro k' j' h1 h2 h3
  rw [gu_at, gu_at]
  by_cases q : k' = k ∧ j' = j
  · rw [if_pos q, if_pos q]
  · rw [if_neg q, if_neg q]
    exact h k' j' h1 h2 h3
theorem MRep.th {A : Nat → Nat → Int32} {G : Nat → Nat → Int} (h : MRep A G) (v : Int32) : MRep (gu A 28 34 v) G := by
  intro k' j' h1 h2 h3
  rw [gu_at, if_neg h3]
  exact h k' j' h1 h2 h3
/-- the check's cells alone are another's -/
def MOnly (A A1 : Nat → Nat → Int32) : Prop := ∀ k, k < 28 ∨ 49 ≤ k → A1 k = A k
theorem MOnly.rf {A : Nat → Nat → Int32} : MOnly A A := fun _ _ => rfl
theorem MOnly.up {A A1 : Nat → Nat → Int32} (h : MOnly A A1) {k : Nat} (j : Nat) (v : Int32) (h1 : 28 ≤ k) (h2 : k < 49) : MOnly A (gu A1 k j v) := fun q hq => by rw [gu_ne _ _ _ (by omega)]; exact h q hq
theorem MOnly.trans {A A1 A2 : Nat → Nat → Int32} (h : MOnly A A1) (h2 : MOnly A1 A2) : MOnly A A2 := fun q hq => (h2 q hq).trans (h q hq)
/-- what a point's numbers are like: width 29, convention 30, period 31, samples 32, phase 33, offset 34 -/
abbrev TOk (G : Nat → Nat → Int) (i : Nat) : Prop := 1 ≤ G 29 i ∧ G 29 i ≤ 12 ∧ 0 ≤ G 30 i ∧ G 30 i ≤ 3 ∧ (G 30 i ≠ 0 → 2 ≤ G 29 i) ∧ (G 31 i = 1 ∨ G 31 i = 2 ∨ G 31 i = 4) ∧ (G 32 i = 1 ∨ (G 32 i = 2 ∧ G 31 i = 1)) ∧ 0 ≤ G 33 i ∧ G 33 i < G 31 i ∧ 0 ≤ G 34 i ∧ G 34 i + G 29 i ≤ 48 ∧ (G 32 i = 2 → G 34 i + G 29 i ≤ 24)
abbrev TsOk (G : Nat → Nat → Int) : Prop := 0 ≤ G 28 0 ∧ G 28 0 ≤ 12 ∧ ∀ i : Nat, (i : Int) < G 28 0 → TOk G i
abbrev mCov (G : Nat → Nat → Int) (c b : Int) (k : Nat) : Prop := c % G 31 k = G 33 k ∧ ((G 34 k ≤ b ∧ b < G 34 k + G 29 k) ∨ (G 32 k = 2 ∧ 24 + G 34 k ≤ b ∧ b < 24 + G 34 k + G 29 k))
/-- the point that uses the bit b in frames of the counter c, of the first k points; -1 if none does -/
def mUser (G : Nat → Nat → Int) (c b : Int) : Nat → Int
  | 0 => -1
  | k + 1 => if mCov G c b k then (k : Int) else mUser G c b k
theorem mUser_range (G : Nat → Nat → Int) (c b : Int) (k : Nat) : -1 ≤ mUser G c b k ∧ mUser G c b k < k := by
  induction k with
  | zero => exact ⟨Int.le_refl _, by simp [mUser]⟩
  | succ k ih =>
    simp only [mUser]
    by_cases h : mCov G c b k
    · rw [if_pos h]; omega
    · rw [if_neg h]; omega
/-- the points as they are placed, alone -/
def MSt (A : Nat → Nat → Int32) (G : Nat → Nat → Int) : Prop := A 28 0 = zI (G 28 0) ∧ ∀ k j, 29 ≤ k → k ≤ 34 → A k j = zI (G k j)
theorem MRep.st {A : Nat → Nat → Int32} {G : Nat → Nat → Int} (h : MRep A G) : MSt A G := ⟨h 28 0 (by omega) (by omega) (by omega), fun k j h1 h2 => h k j (by omega) (by omega) (by omega)⟩
/-- the bits that were taken, alone -/
def MPa (A : Nat → Nat → Int32) (G : Nat → Nat → Int) : Prop := (∀ j, A 38 j = zI (G 38 j)) ∧ A 28 12 = zI (G 28 12)
theorem MRep.pa {A : Nat → Nat → Int32} {G : Nat → Nat → Int} (h : MRep A G) : MPa A G := ⟨fun j => h 38 j (by omega) (by omega) (by omega), h 28 12 (by omega) (by omega) (by omega)⟩
theorem MSt.to {A : Nat → Nat → Int32} {G G' : Nat → Nat → Int} (h : MSt A G) (h1 : G 28 0 = G' 28 0) (h2 : ∀ k j, 29 ≤ k → k ≤ 34 → G k j = G' k j) : MSt A G' := ⟨by rw [h.1, h1], fun k j a b => by rw [h.2 k j a b, h2 k j a b]⟩
