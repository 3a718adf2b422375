/-! ===== derived points of the class ===== -/
def CDv (A : Nat → Nat → Int32) (G : Nat → Nat → Int) : Prop := ∀ i : Nat, i < 8 → (G 43 i = -1 → A (12 + 2 * i) 0 = nI 0) ∧ (G 43 i ≠ -1 → A (12 + 2 * i) 0 = nI 1 ∧ A (12 + 2 * i) 1 = zI (G 43 i) ∧ A (12 + 2 * i) 2 = zI (G 44 i) ∧ A (12 + 2 * i) 3 = zI (G 45 i))
def CRs (A : Nat → Nat → Int32) (G : Nat → Nat → Int) : Prop := ∀ i : Nat, i < 8 → A (12 + 2 * i + 1) 0 = zI (G 46 i) ∧ (G 46 i = 1 → A (12 + 2 * i + 1) 1 = zI (G 47 i) ∧ A (12 + 2 * i + 1) 2 = zI (G 48 i))
