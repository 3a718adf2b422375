/-! ===== what is computed once is computed so again ===== -/
def mTm (G : Nat → Nat → Int) (k : Nat) : Int := if mTo G (G 45 k) < mTo G (G 44 k) then mTo G (G 44 k) else mTo G (G 45 k)
def mVl (G : Nat → Nat → Int) (k : Nat) : Int := mMade (G 43 k) (mVo G (G 44 k)) (mVo G (G 45 k))
abbrev mCan (G : Nat → Nat → Int) (k : Nat) : Prop := G 43 k ≠ -1 ∧ mHas G (G 44 k) ∧ mHas G (G 45 k)
def gInv (G : Nat → Nat → Int) : Prop := ∀ k, k < 8 → G 46 k = 1 → mCan G k ∧ G 47 k = mVl G k ∧ G 48 k = mTm G k
theorem Der1_y {G : Nat → Nat → Int} {k : Nat} (h : mCan G k) : mDer1 G k = gu (gu (gu G 46 k 1) 47 k (mVl G k)) 48 k (mTm G k) := if_pos h
theorem Der1_n {G : Nat → Nat → Int} {k : Nat} (h : ¬ mCan G k) : mDer1 G k = G := if_neg h
theorem gu_same {α : Type} {A : Nat → Nat → α} {k j : Nat} {v : α} (h : A k j = v) : gu A k j v = A := by
  funext k' j'
  rw [gu_at]
  split
  · next e => rw [e.1, e.2, h]
  · rfl
theorem Der1_k {G : Nat → Nat → Int} (h : gInv G) {k : Nat} (hk : k < 8) (h1 : G 46 k = 1) : mDer1 G k = G := by
  obtain ⟨a, b, c⟩ := h k hk h1
  rw [Der1_y a, gu_same h1, gu_same b, gu_same c]
theorem Der1_inv {G : Nat → Nat → Int} (h : gInv G) (hd : mDvOk G) {k : Nat} (hk : k < 8) : gInv (mDer1 G k) := by
  by_cases h1 : G 46 k = 1
  · rw [Der1_k h hk h1]; exact h
  · by_cases hc : mCan G k
    · rw [Der1_y hc]
      have e46 : ∀ j, gu (gu (gu G 46 k 1) 47 k (mVl G k)) 48 k (mTm G k) 46 j = if j = k then 1 else G 46 j := fun j => by
        rw [gu_ne _ _ _ (by decide), gu_ne _ _ _ (by decide), gu_at]
        by_cases q : j = k
        · rw [if_pos ⟨rfl, q⟩, if_pos q]
        · rw [if_neg (fun z => q z.2), if_neg q]
      have e47 : ∀ j, gu (gu (gu G 46 k 1) 47 k (mVl G k)) 48 k (mTm G k) 47 j = if j = k then mVl G k else G 47 j := fun j => by
        rw [gu_ne _ _ _ (by decide), gu_at]
        by_cases q : j = k
        · rw [if_pos ⟨rfl, q⟩, if_pos q]
        · rw [if_neg (fun z => q z.2), if_neg q, gu_ne _ _ _ (by decide)]
      have e48 : ∀ j, gu (gu (gu G 46 k 1) 47 k (mVl G k)) 48 k (mTm G k) 48 j = if j = k then mTm G k else G 48 j := fun j => by
        rw [gu_at]
        by_cases q : j = k
        · rw [if_pos ⟨rfl, q⟩, if_pos q]
        · rw [if_neg (fun z => q z.2), if_neg q, gu_ne _ _ _ (by decide), gu_ne _ _ _ (by decide)]
      have eo : ∀ a j, a ≠ 46 → a ≠ 47 → a ≠ 48 → gu (gu (gu G 46 k 1) 47 k (mVl G k)) 48 k (mTm G k) a j = G a j := fun a j q1 q2 q3 => by
        rw [gu_ne _ _ _ q3, gu_ne _ _ _ q2, gu_ne _ _ _ q1]
      generalize gu (gu (gu G 46 k 1) 47 k (mVl G k)) 48 k (mTm G k) = H at e46 e47 e48 eo
      -- an operand that has a value is not k, and keeps it
      have op : ∀ o, isOp o → mHas G o → mHas H o ∧ mVo H o = mVo G o ∧ mTo H o = mTo G o := by
        intro o ho hh
        rcases hh with ⟨q1, q2⟩ | ⟨q1, q2, q3⟩
        · have hne : (o - 100).toNat ≠ k := fun z => h1 (by rw [← z]; exact q2)
          refine ⟨Or.inl ⟨q1, by rw [e46, if_neg hne]; exact q2⟩, ?_, ?_⟩
          · unfold mVo; rw [if_pos q1, if_pos q1, e47, if_neg hne]
          · unfold mTo; rw [if_pos q1, if_pos q1, e48, if_neg hne]
        · refine ⟨Or.inr ⟨q1, by rw [eo 28 0 (by decide) (by decide) (by decide)]; exact q2, by rw [eo 41 _ (by decide) (by decide) (by decide)]; exact q3⟩, ?_, ?_⟩
          · unfold mVo; rw [if_neg (by omega), if_neg (by omega), eo 39 _ (by decide) (by decide) (by decide)]
          · unfold mTo; rw [if_neg (by omega), if_neg (by omega), eo 40 _ (by decide) (by decide) (by decide)]
      have key : ∀ i, i < 8 → mCan G i → mCan H i ∧ mVl H i = mVl G i ∧ mTm H i = mTm G i := by
        intro i hi ⟨c1, c2, c3⟩
        have f43 := eo 43 i (by decide) (by decide) (by decide)
        have f44 := eo 44 i (by decide) (by decide) (by decide)
        have f45 := eo 45 i (by decide) (by decide) (by decide)
        have o1 := op (G 44 i) (hd i).2.1 c2
        have o2 := op (G 45 i) (hd i).2.2 c3
        refine ⟨⟨by rw [f43]; exact c1, by rw [f44]; exact o1.1, by rw [f45]; exact o2.1⟩, ?_, ?_⟩
        · unfold mVl; rw [f43, f44, f45, o1.2.1, o2.2.1]
        · unfold mTm; rw [f44, f45, o1.2.2, o2.2.2]
      intro i hi hi1
      by_cases q : i = k
      · subst q
        have z := key i hi hc
        rw [e47, e48, if_pos rfl, if_pos rfl]
        exact ⟨z.1, z.2.1.symm, z.2.2.symm⟩
      · rw [e46, if_neg q] at hi1
        obtain ⟨w1, w2, w3⟩ := h i hi hi1
        have z := key i hi w1
        rw [e47, e48, if_neg q, if_neg q]
        exact ⟨z.1, w2.trans z.2.1.symm, w3.trans z.2.2.symm⟩
    · rw [Der1_n hc]; exact h
