def gKn (G : Nat → Nat → Int) (k : Nat) : Nat := if G 41 k = 0 then 0 else 1
theorem gKn_1 (G : Nat → Nat → Int) (k : Nat) : gKn G k ≤ 1 ∧ (gKn G k = 0 ↔ G 41 k = 0) := by
  unfold gKn
  split
  · next h => exact ⟨by omega, fun _ => h, fun _ => rfl⟩
  · next h => exact ⟨by omega, fun z => absurd z (by decide), fun z => absurd z h⟩
theorem PtF_kn {A : Nat → Nat → Int32} {G : Nat → Nat → Int} {k : Nat} (h : PtF A G k) : A (50 + 2 * k + 1) 0 = nI (gKn G k) := by
  unfold gKn
  by_cases q : G 41 k = 0
  · rw [if_pos q]; exact h.2.2.2.2.1 q
  · rw [if_neg q]; exact (h.2.2.2.2.2 q).1
/-- what a reading gives for an operand -/
def rdIs (A : Nat → Nat → Int32) (G : Nat → Nat → Int) (r : Nat) (o : Int) : Prop := ∃ v : Nat, A r 0 = nI v ∧ v ≤ 1 ∧ (v = 1 ↔ mHas G o) ∧ (v = 1 → A r 1 = zI (mVo G o) ∧ A r 2 = zI (mTo G o))
theorem rdIs_d {A : Nat → Nat → Int32} {G : Nat → Nat → Int} {k : Nat} {o : Int} (h : CRs A G) (hd : G 46 k = 0 ∨ G 46 k = 1) (hk : k < 8 ∧ o = 100 + (k : Int)) : rdIs A G (12 + 2 * k + 1) o := by
  obtain ⟨hk, rfl⟩ := hk
  obtain ⟨a, b⟩ := h k hk
  have e : (100 + (k : Int) - 100).toNat = k := by omega
  refine ⟨(G 46 k).toNat, ?_, by omega, ?_, ?_⟩
  · rw [a, zI_nat (by omega)]
  · unfold mHas
    rw [e]
    constructor
    · intro z; exact Or.inl ⟨by omega, by omega⟩
    · rintro (z | z)
      · omega
      · omega
  · intro z
    unfold mVo mTo
    rw [if_pos (by omega), if_pos (by omega), e]
    exact b (by omega)
theorem rdIs_p {A : Nat → Nat → Int32} {G : Nat → Nat → Int} {k n : Nat} {o : Int} (hn : G 28 0 = (n : Int)) (h : PtF A G k) (h41 : 0 ≤ G 41 k) (hk : k < n ∧ o = (k : Int)) (h100 : n ≤ 12) : rdIs A G (50 + 2 * k + 1) o := by
  obtain ⟨hk, rfl⟩ := hk
  have g := gKn_1 G k
  refine ⟨gKn G k, PtF_kn h, g.1, ?_, ?_⟩
  · unfold mHas
    rw [Int.toNat_natCast]
    constructor
    · intro z; exact Or.inr ⟨by omega, by omega, by omega⟩
    · rintro (z | z)
      · omega
      · omega
  · intro z
    unfold mVo mTo
    rw [if_neg (by omega), if_neg (by omega), Int.toNat_natCast]
    exact (h.2.2.2.2.2 (by omega)).2
theorem rdIs_no {G : Nat → Nat → Int} {n : Nat} {o : Int} (hn : G 28 0 = (n : Int)) (h : o < 100 ∧ (n : Int) ≤ o) : ¬ mHas G o := by
  rintro (z | z)
  · omega
  · omega
