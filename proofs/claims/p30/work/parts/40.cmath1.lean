/-! ===== the class over the same ghost: points ===== -/
abbrev PtR (A : Nat → Nat → Int32) (G : Nat → Nat → Int) (i : Nat) : Prop := A (33 + 2 * i) 0 = zI (G 29 i) ∧ A (33 + 2 * i) 1 = zI (G 30 i) ∧ A (33 + 2 * i) 2 = zI (G 31 i) ∧ A (33 + 2 * i) 3 = zI (G 32 i - 1) ∧ A (33 + 2 * i) 4 = zI (G 33 i) ∧ A (33 + 2 * i) 5 = zI (G 34 i)
theorem z_andp {c p : Int} (h0 : 0 ≤ c) (h1 : c < 2147483648) (hp : p = 1 ∨ p = 2 ∨ p = 4) : zI c &&& zI (p - 1) = zI (c % p) := by
  obtain ⟨b, rfl⟩ : ∃ b : Nat, c = b := ⟨c.toNat, by omega⟩
  rcases hp with rfl | rfl | rfl
  · rw [zI_n, pk_andN (k := 0) (by omega) (by decide), ← zI_n, Int.natCast_emod]; rfl
  · rw [zI_n, pk_andN (k := 1) (by omega) (by decide), ← zI_n, Int.natCast_emod]; rfl
  · rw [zI_n, pk_andN (k := 2) (by omega) (by decide), ← zI_n, Int.natCast_emod]; rfl
theorem gDec_r {cv w b : Int} (h : 1 ≤ w) (h2 : w ≤ 12) (hb : 0 ≤ b ∧ b < 4096) : -5000 ≤ gDec cv w b ∧ gDec cv w b ≤ 5000 := by
  have := gHf_range h h2
  unfold gDec
  (repeat' split) <;> omega
