/-! ===== what a derived point needs: one way and the other come to the same ===== -/
def gNd (G : Nat → Nat → Int) (m : Nat) : Nat → Nat
  | 0 => 0
  | k + 1 => if G 43 k ≠ -1 ∧ m.testBit k = true then gNd G m k ||| (om (G 44 k) ||| om (G 45 k)) else gNd G m k
def gJc (G : Nat → Nat → Int) (m : Nat) : Nat → Nat
  | 0 => m
  | r + 1 => gJc G m r ||| gNd G (gJc G m r) 8
def bSub (a b : Nat) : Prop := ∀ x, a.testBit x = true → b.testBit x = true
theorem bSub.rf (a : Nat) : bSub a a := fun _ h => h
theorem bSub.tr {a b c : Nat} (h : bSub a b) (h2 : bSub b c) : bSub a c := fun x z => h2 x (h x z)
theorem or_tb {a b x : Nat} : (a ||| b).testBit x = true ↔ a.testBit x = true ∨ b.testBit x = true := by rw [Nat.testBit_or, Bool.or_eq_true]
theorem gNd_tb (G : Nat → Nat → Int) (m k x : Nat) : (gNd G m k).testBit x = true ↔ ∃ i, i < k ∧ G 43 i ≠ -1 ∧ m.testBit i = true ∧ (om (G 44 i) ||| om (G 45 i)).testBit x = true := by
  induction k with
  | zero =>
    simp only [gNd, Nat.zero_testBit]
    exact ⟨fun h => absurd h (by decide), fun ⟨i, h, _⟩ => absurd h (Nat.not_lt_zero _)⟩
  | succ k ih =>
    simp only [gNd]
    by_cases h : G 43 k ≠ -1 ∧ m.testBit k = true
    · rw [if_pos h, or_tb, ih]
      constructor
      · rintro (⟨i, a, b⟩ | e)
        · exact ⟨i, by omega, b⟩
        · exact ⟨k, by omega, h.1, h.2, e⟩
      · rintro ⟨i, a, b, c, d⟩
        by_cases e : i = k
        · subst e; exact Or.inr d
        · exact Or.inl ⟨i, by omega, b, c, d⟩
    · rw [if_neg h, ih]
      constructor
      · rintro ⟨i, a, b⟩; exact ⟨i, by omega, b⟩
      · rintro ⟨i, a, b, c, d⟩
        by_cases e : i = k
        · subst e; exact absurd ⟨b, c⟩ h
        · exact ⟨i, by omega, b, c, d⟩
def bCl (G : Nat → Nat → Int) (m : Nat) : Prop := ∀ i, i < 8 → G 43 i ≠ -1 → m.testBit i = true → bSub (om (G 44 i) ||| om (G 45 i)) m
theorem CTk_grow (G : Nat → Nat → Int) (m k : Nat) (j : Nat) : bSub (mCTk G m k) (mCTk G m (k + j)) := by
  induction j with
  | zero => exact bSub.rf _
  | succ j ih =>
    refine ih.tr fun x h => ?_
    show (mCT1 G (mCTk G m (k + j)) (k + j)).testBit x = true
    unfold mCT1
    split
    · rw [or_tb, or_tb]; exact Or.inl (Or.inl h)
    · exact h
theorem CTk_cl {G : Nat → Nat → Int} {C m : Nat} (hC : bCl G C) (h : bSub m C) (k : Nat) (hk : k ≤ 8) : bSub (mCTk G m k) C := by
  induction k with
  | zero => exact h
  | succ k ih =>
    have ih := ih (by omega)
    show bSub (mCT1 G (mCTk G m k) k) C
    unfold mCT1
    split
    · next z =>
      intro x hx
      rw [Nat.or_assoc, or_tb] at hx
      rcases hx with hx | hx
      · exact ih x hx
      · exact hC k (by omega) z.2 (ih k z.1) x hx
    · exact ih
theorem CTr_cl {G : Nat → Nat → Int} {C m : Nat} (hC : bCl G C) (h : bSub m C) (r : Nat) : bSub (mCTr G m r) C := by
  induction r with
  | zero => exact h
  | succ r ih => exact CTk_cl hC ih 8 (Nat.le_refl _)
theorem Jc_CT {G : Nat → Nat → Int} {m : Nat} (r : Nat) : bSub (gJc G m r) (mCTr G m r) := by
  induction r with
  | zero => exact bSub.rf _
  | succ r ih =>
    intro x hx
    show (mCTk G (mCTr G m r) 8).testBit x = true
    have hx : (gJc G m r ||| gNd G (gJc G m r) 8).testBit x = true := hx
    rw [or_tb, gNd_tb] at hx
    rcases hx with hx | ⟨i, a, b, c, d⟩
    · have := CTk_grow G (mCTr G m r) 0 8 x (ih x hx)
      rwa [Nat.zero_add] at this
    · have h1 : (mCTk G (mCTr G m r) i).testBit i = true := by
        have := CTk_grow G (mCTr G m r) 0 i i (ih i c)
        rwa [Nat.zero_add] at this
      have h2 : (mCTk G (mCTr G m r) (i + 1)).testBit x = true := by
        show (mCT1 G (mCTk G (mCTr G m r) i) i).testBit x = true
        unfold mCT1
        rw [if_pos ⟨h1, b⟩, Nat.or_assoc, or_tb]
        exact Or.inr d
      have := CTk_grow G (mCTr G m r) (i + 1) (8 - (i + 1)) x h2
      rwa [show i + 1 + (8 - (i + 1)) = 8 from by omega] at this
theorem nCnt_sub {a b : Nat} (h : bSub a b) (k : Nat) : nCnt a k ≤ nCnt b k ∧ ((∃ x, x < k ∧ b.testBit x = true ∧ a.testBit x = false) → nCnt a k < nCnt b k) := by
  induction k with
  | zero => exact ⟨Nat.le_refl _, fun ⟨x, z, _⟩ => absurd z (Nat.not_lt_zero _)⟩
  | succ k ih =>
    have hk := h k
    simp only [nCnt]
    refine ⟨?_, fun ⟨x, z, z1, z2⟩ => ?_⟩
    · cases e : a.testBit k with
      | false => simp only [Bool.false_eq_true, if_false]; have := ih.1; split <;> omega
      | true => rw [hk e]; simp only [if_true]; have := ih.1; omega
    · by_cases e : x = k
      · subst e
        rw [z1, z2]
        simp only [Bool.false_eq_true, if_false, if_true]
        have := ih.1; omega
      · have h1 := ih.2 ⟨x, by omega, z1, z2⟩
        cases e : a.testBit k with
        | false => simp only [Bool.false_eq_true, if_false]; split <;> omega
        | true => rw [hk e]; simp only [if_true]; omega
theorem nCnt_full {a : Nat} (k : Nat) (h : nCnt a k = k) : ∀ x, x < k → a.testBit x = true := by
  induction k with
  | zero => intro x hx; exact absurd hx (Nat.not_lt_zero _)
  | succ k ih =>
    intro x hx
    simp only [nCnt] at h
    have h1 := nCnt_le a k
    cases e : a.testBit k with
    | false => rw [e] at h; simp only [Bool.false_eq_true, if_false] at h; omega
    | true =>
      by_cases e2 : x = k
      · subst e2; exact e
      · rw [e] at h; simp only [if_true] at h
        exact ih (by omega) x (by omega)
theorem Nd_lt {G : Nat → Nat → Int} (h : mDvOk G) (m k : Nat) : gNd G m k < 256 := by
  induction k with
  | zero => exact (show 0 < 256 by decide)
  | succ k ih =>
    simp only [gNd]
    split
    · have := h k
      exact or_256 ih (or_256 (om_lt (by omega)) (om_lt (by omega)))
    · exact ih
theorem Jc_lt {G : Nat → Nat → Int} (h : mDvOk G) {m : Nat} (hm : m < 256) (r : Nat) : gJc G m r < 256 := by
  induction r with
  | zero => exact hm
  | succ r ih => exact or_256 ih (Nd_lt h _ 8)
theorem Jc_grow {G : Nat → Nat → Int} (h : mDvOk G) {m : Nat} (hm : m < 256) (r : Nat) : bCl G (gJc G m r) ∨ r ≤ nCnt (gJc G m r) 8 := by
  induction r with
  | zero => exact Or.inr (Nat.zero_le _)
  | succ r ih =>
    by_cases hc : bCl G (gJc G m r)
    · left
      have e : gJc G m (r + 1) = gJc G m r := by
        apply Nat.eq_of_testBit_eq
        intro x
        have h1 : (gJc G m (r + 1)).testBit x = true ↔ (gJc G m r).testBit x = true := by
          show (gJc G m r ||| gNd G (gJc G m r) 8).testBit x = true ↔ _
          rw [or_tb, gNd_tb]
          exact ⟨fun z => z.elim id (fun ⟨i, a, b, c, d⟩ => hc i a b c x d), Or.inl⟩
        cases e1 : (gJc G m r).testBit x <;> cases e2 : (gJc G m (r + 1)).testBit x <;> simp_all
      rw [e]; exact hc
    · right
      have hr := ih.resolve_left hc
      have hsub : bSub (gJc G m r) (gJc G m (r + 1)) := fun x z => by
        show (gJc G m r ||| gNd G (gJc G m r) 8).testBit x = true
        rw [or_tb]; exact Or.inl z
      have : nCnt (gJc G m r) 8 < nCnt (gJc G m (r + 1)) 8 := by
        refine (nCnt_sub hsub 8).2 ?_
        apply Classical.byContradiction
        intro hno
        apply hc
        intro i a b c x d
        have h1 : (gJc G m (r + 1)).testBit x = true := by
          show (gJc G m r ||| gNd G (gJc G m r) 8).testBit x = true
          rw [or_tb, gNd_tb]; exact Or.inr ⟨i, a, b, c, d⟩
        have hx : x < 8 := by
          apply Classical.byContradiction
          intro z
          have := Nat.testBit_lt_two_pow (Nat.lt_of_lt_of_le (Jc_lt h hm (r + 1)) (Nat.pow_le_pow_right (show 0 < 2 by decide) (show 8 ≤ x by omega)))
          rw [this] at h1; cases h1
        cases e : (gJc G m r).testBit x with
        | true => rfl
        | false => exact absurd ⟨x, hx, h1, e⟩ hno
      omega
theorem Jc_reach {G : Nat → Nat → Int} (h : mDvOk G) {a b : Int} (ha : isOp a) (hb : isOp b) (x : Nat) : (gJc G (om a ||| om b) 8).testBit x = true ↔ (mReach G a b).testBit x = true := by
  have hm : om a ||| om b < 256 := or_256 (om_lt (by omega)) (om_lt (by omega))
  have hcl : bCl G (gJc G (om a ||| om b) 8) := by
    rcases Jc_grow h hm 8 with z | z
    · exact z
    · have hf := nCnt_full 8 (Nat.le_antisymm (nCnt_le _ 8) z)
      intro i a1 b1 c1 x d1
      apply hf
      have hd := h i
      apply Classical.byContradiction
      intro z2
      have := Nat.testBit_lt_two_pow (Nat.lt_of_lt_of_le (or_256 (om_lt (o := G 44 i) (by omega)) (om_lt (o := G 45 i) (by omega))) (Nat.pow_le_pow_right (show 0 < 2 by decide) (show 8 ≤ x by omega)))
      rw [this] at d1; cases d1
  have hst : bSub (om a ||| om b) (gJc G (om a ||| om b) 8) := by
    have : ∀ r, bSub (om a ||| om b) (gJc G (om a ||| om b) r) := by
      intro r
      induction r with
      | zero => exact bSub.rf _
      | succ r ih =>
        refine ih.tr fun x z => ?_
        show (gJc G (om a ||| om b) r ||| gNd G (gJc G (om a ||| om b) r) 8).testBit x = true
        rw [or_tb]
        exact Or.inl z
    exact this 8
  exact ⟨Jc_CT 8 x, CTr_cl hcl hst 8 x⟩
def gDf (G : Nat → Nat → Int) (k : Nat) : Nat := if G 43 k = -1 then 0 else 1
theorem gDf_1 (G : Nat → Nat → Int) (k : Nat) : gDf G k ≤ 1 ∧ (gDf G k = 0 ↔ G 43 k = -1) := by
  unfold gDf
  split
  · next h => exact ⟨by omega, fun _ => h, fun _ => rfl⟩
  · next h => exact ⟨by omega, fun z => absurd z (by decide), fun z => absurd z h⟩
theorem CDv_0 {A : Nat → Nat → Int32} {G : Nat → Nat → Int} (h : CDv A G) {k : Nat} (hk : k < 8) : A (12 + 2 * k) 0 = nI (gDf G k) := by
  unfold gDf
  by_cases q : G 43 k = -1
  · rw [if_pos q]; exact (h k hk).1 q
  · rw [if_neg q]; exact ((h k hk).2 q).1
theorem gNd_n {G : Nat → Nat → Int} {m k : Nat} (h : ¬ (G 43 k ≠ -1 ∧ m.testBit k = true)) : gNd G m k = gNd G m (k + 1) := by
  simp only [gNd]
  rw [if_neg h]
theorem gNd_y {G : Nat → Nat → Int} {m k : Nat} (h : G 43 k ≠ -1 ∧ m.testBit k = true) : gNd G m k ||| (om (G 44 k) ||| om (G 45 k)) = gNd G m (k + 1) := by
  simp only [gNd]
  rw [if_pos h]
