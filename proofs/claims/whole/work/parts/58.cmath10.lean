theorem gHf_pow {w : Int} (h : 1 ≤ w) (h2 : w ≤ 12) : 2 * gHf w = 2 ^ w.toNat := by
  rcases w_cases h h2 with e | e | e | e | e | e | e | e | e | e | e | e <;> subst e <;> decide
