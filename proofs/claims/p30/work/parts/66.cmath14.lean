def gKn (G : Nat → Nat → Int) (k : Nat) : Nat := if G 41 k = 0 then 0 else 1
theorem gKn_1 (G : Nat → Nat → Int) (k : Nat) : gKn G k ≤ 1 ∧ (gKn G k = 0 ↔ G 41 k = 0) := by
  unfold gKn
  split
  · next h => exact ⟨by omega, fun _ => h, fun _ => rfl⟩
  · next h => exact ⟨by omega, fun z => absurd z (by decide), fun z => absurd z h⟩
theorem PtF_kn {A : Nat → Nat → Int32} {G : Nat → Nat → Int} {k : Nat} (h : PtF A G k) : A (33 + 2 * k + 1) 0 = nI (gKn G k) := by
  unfold gKn
  by_cases q : G 41 k = 0
  · rw [if_pos q]; exact h.2.2.2.2.1 q
  · rw [if_neg q]; exact (h.2.2.2.2.2 q).1
/-- what a reading gives for an operand -/
def rdIs (A : Nat → Nat → Int32) (G : Nat → Nat → Int) (r : Nat) (o : Int) : Prop := ∃ v : Nat, A r 0 = nI v ∧ v ≤ 1 ∧ (v = 1 ↔ mHas G o) ∧ (v = 1 → A r 1 = zI (mVo G o) ∧ A r 2 = zI (mTo G o))
theorem rdIs_d {A : Nat → Nat → Int32} {G : Nat → Nat → Int} {k : Nat} {o : Int} (h : CRs A G) (hd : G 46 k = 0 ∨ G 46 k = 1) (hk : k < 8 ∧ o = 100 + (k : Int)) : rdIs A G (12 + 2 * k + 1) o := by
  obtain ⟨hk, rfl⟩ := hk
  obtain ⟨a, b⟩ := h k hk
  have e : (100 + (k : Int) - 100).toNat = k := by omega
  refine ⟨(G 46 k).toNat, ?_, by omega, ?_, ?_⟩
  · rw [a, zI_nat (by omega)]
  · unfold mHas
    rw [e]
    constructor
    · intro z; exact Or.inl ⟨by omega, by omega⟩
    · rintro (z | z)
      · omega
      · omega
  · intro z
    unfold mVo mTo
    rw [if_pos (by omega), if_pos (by omega), e]
    exact b (by omega)
theorem rdIs_p {A : Nat → Nat → Int32} {G : Nat → Nat → Int} {k n : Nat} {o : Int} (hn : G 28 0 = (n : Int)) (h : PtF A G k) (h41 : 0 ≤ G 41 k) (hk : k < n ∧ o = (k : Int)) (h100 : n ≤ 12) : rdIs A G (33 + 2 * k + 1) o := by
  obtain ⟨hk, rfl⟩ := hk
  have g := gKn_1 G k
  refine ⟨gKn G k, PtF_kn h, g.1, ?_, ?_⟩
  · unfold mHas
    rw [Int.toNat_natCast]
    constructor
    · intro z; exact Or.inr ⟨by omega, by omega, by omega⟩
    · rintro (z | z)
      · omega
      · omega
  · intro z
    unfold mVo mTo
    rw [if_neg (by omega), if_neg (by omega), Int.toNat_natCast]
    exact (h.2.2.2.2.2 (by omega)).2
theorem rdIs_no {G : Nat → Nat → Int} {n : Nat} {o : Int} (hn : G 28 0 = (n : Int)) (h : o < 100 ∧ (n : Int) ≤ o) : ¬ mHas G o := by
  rintro (z | z)
  · omega
  · omega
theorem CRs_set {A : Nat → Nat → Int32} {G : Nat → Nat → Int} {k : Nat} (h : CRs A G) (hc : mCan G k) (hk : k < 8) : CRs (gu (gu (gu A (12 + 2 * k + 1) 0 (nI 1)) (12 + 2 * k + 1) 1 (zI (mMade (G 43 k) (mVo G (G 44 k)) (mVo G (G 45 k))))) (12 + 2 * k + 1) 2 (zI (if mTo G (G 44 k) < mTo G (G 45 k) then mTo G (G 45 k) else mTo G (G 44 k)))) (mDer1 G k) := by
  rw [Der1_y hc]
  intro i hi
  have e : (gu (gu (gu G 46 k 1) 47 k (mVl G k)) 48 k (mTm G k)) 46 i = if i = k then 1 else G 46 i := by
    rw [gu_ne _ _ _ (by decide), gu_ne _ _ _ (by decide), gu_at]
    by_cases q : i = k
    · rw [if_pos ⟨rfl, q⟩, if_pos q]
    · rw [if_neg (fun z => q z.2), if_neg q]
  by_cases q : i = k
  · subst q
    rw [e, if_pos rfl]
    refine ⟨?_, fun _ => ⟨?_, ?_⟩⟩
    · rw [gu_at, if_neg (by omega), gu_at, if_neg (by omega), gu_at, if_pos ⟨rfl, rfl⟩]
      rfl
    · rw [gu_at, if_neg (by omega), gu_at, if_pos ⟨rfl, rfl⟩, gu_ne _ _ _ (by decide), gu_at, if_pos ⟨rfl, rfl⟩]
      rfl
    · rw [gu_at, if_pos ⟨rfl, rfl⟩]
      refine congrArg zI ?_
      have e48 : gu (gu (gu G 46 i 1) 47 i (mVl G i)) 48 i (mTm G i) 48 i = mTm G i := by rw [gu_at, if_pos ⟨rfl, rfl⟩]
      rw [e48]
      unfold mTm
      (repeat' split) <;> omega
  · have h1 := h i hi
    rw [e, if_neg q, gu_ne _ _ _ (by omega), gu_ne _ _ _ (by omega), gu_ne _ _ _ (by omega)]
    refine ⟨h1.1, fun z => ?_⟩
    have h2 := h1.2 z
    refine ⟨h2.1.trans (congrArg zI ?_), h2.2.trans (congrArg zI ?_)⟩
    · rw [gu_ne _ _ _ (by decide), gu_at, if_neg (fun z => q z.2), gu_ne _ _ _ (by decide)]
    · rw [gu_at, if_neg (fun z => q z.2), gu_ne _ _ _ (by decide), gu_ne _ _ _ (by decide)]
