/-- only the derived points' results are another's -/
def gSt (G H : Nat → Nat → Int) : Prop := (∀ k j, k ≠ 46 → k ≠ 47 → k ≠ 48 → H k j = G k j) ∧ mDrOk H ∧ gInv H
theorem gSt.dv {G H : Nat → Nat → Int} (h : gSt G H) (hd : mDvOk G) : mDvOk H := fun i => by
  rw [h.1 43 i (by decide) (by decide) (by decide), h.1 44 i (by decide) (by decide) (by decide), h.1 45 i (by decide) (by decide) (by decide)]
  exact hd i
theorem gSt.cd {A : Nat → Nat → Int32} {G H : Nat → Nat → Int} (h : gSt G H) (hd : CDv A G) : CDv A H := fun i hi => by
  rw [h.1 43 i (by decide) (by decide) (by decide), h.1 44 i (by decide) (by decide) (by decide), h.1 45 i (by decide) (by decide) (by decide)]
  exact hd i hi
theorem gSt.pt {A : Nat → Nat → Int32} {G H : Nat → Nat → Int} (h : gSt G H) {i : Nat} (hp : PtF A G i) : PtF A H i := hp.to rfl rfl (fun k _ b _ _ _ => h.1 k i (by omega) (by omega) (by omega))
theorem gSt.ts {G H : Nat → Nat → Int} (h : gSt G H) (hT : TsOk G) : TsOk H := hT.to (h.1 28 0 (by decide) (by decide) (by decide)) (fun k j a b => h.1 k j (by omega) (by omega) (by omega))
theorem mTm_r {G : Nat → Nat → Int} (h : mDrOk G) (k : Nat) : 0 ≤ mTm G k ∧ mTm G k ≤ 1000000000 := by
  have a := mTo_r h (G 44 k)
  have b := mTo_r h (G 45 k)
  unfold mTm
  split <;> omega
theorem gSt.der1 {G H : Nat → Nat → Int} (h : gSt G H) (hd : mDvOk G) {k : Nat} (hk : k < 8) : gSt G (mDer1 H k) := by
  refine ⟨fun a j q1 q2 q3 => ?_, mDer1_ok h.2.1 k, Der1_inv h.2.2 (h.dv hd) hk⟩
  by_cases hc : mCan H k
  · rw [Der1_y hc, gu_ne _ _ _ q3, gu_ne _ _ _ q2, gu_ne _ _ _ q1]; exact h.1 a j q1 q2 q3
  · rw [Der1_n hc]; exact h.1 a j q1 q2 q3
theorem gSt.derK {G H : Nat → Nat → Int} (h : gSt G H) (hd : mDvOk G) (k : Nat) (hk : k ≤ 8) : gSt G (mDerK H k) := by
  induction k with
  | zero => exact h
  | succ k ih => exact (ih (by omega)).der1 hd (by omega)
theorem gSt.derR {G H : Nat → Nat → Int} (h : gSt G H) (hd : mDvOk G) (r : Nat) : gSt G (mDerR H r) := by
  induction r with
  | zero => exact h
  | succ r ih => exact ih.derK hd 8 (Nat.le_refl _)
theorem gSt.clr {G : Nat → Nat → Int} (h : mDrOk G) : gSt G (mClr G 8) := by
  have e : ∀ i, mClr G 8 46 i = if i < 8 then 0 else G 46 i := fun i => by unfold mClr; rw [gr_self]
  refine ⟨fun k j q1 _ _ => by unfold mClr; rw [gr_ne _ _ q1], fun i => ?_, fun k hk h1 => ?_⟩
  · obtain ⟨d1, d2, d3, d4, d5⟩ := h i
    refine ⟨?_, d2, d3, d4, d5⟩
    rw [e]
    split
    · exact Or.inl rfl
    · exact d1
  · rw [e, if_pos hk] at h1
    exact absurd h1 (by decide)
