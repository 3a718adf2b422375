/-! ===== a bit is taken: the synchroniser ===== -/
theorem z_and63 (c : Int) : zI c &&& nI 63 = zI (c % 64) := by
  rw [pk_and _ 6 (by decide), ← zI_n]
  congr 1
  have h1 : (zI c).toBitVec = BitVec.ofInt 32 c := rfl
  rw [h1, BitVec.toNat_ofInt]
  omega
def CS1 (A Aq : Nat → Nat → Int32) (G : Nat → Nat → Int) (b : Int) : Prop := Aq 7 0 = zI (G 28 14) ∧ Aq 7 1 = zI (G 28 12 + 1) ∧ (G 28 14 ≠ 0 → Aq 7 3 = zI ((G 28 12 - G 28 15) % 64)) ∧ (G 28 14 = 1 → Aq 7 4 = zI (G 28 16)) ∧ (G 28 14 = 2 → Aq 7 5 = zI (G 28 17)) ∧ (∀ o : Nat, o < 64 → Aq 8 o = zI (mMat (mT1 G b) o)) ∧ ∀ k, k ≠ 7 → k ≠ 8 → Aq k = A k
theorem CS1_n {A : Nat → Nat → Int32} {J : Nat → Nat → Int64} {G : Nat → Nat → Int} {b : Int} (h : CSy A J G) (ht : 0 ≤ G 28 12) (hw : ¬ (8 ≤ G 28 12 + 1 ∧ mBits (mT1 G b) (G 28 12 + 1 - 8) 8 = 184)) : CS1 A (gu A 7 1 (zI (G 28 12 + 1))) G b := by
  obtain ⟨h0, h1, hL, h3, h4, h5, h8⟩ := h
  exact ⟨h0, rfl, h3, h4, h5, fun o ho => by rw [Mat_n ho ht hw]; exact h8 o ho, fun k a _ => gu_ne _ _ _ a⟩
theorem CS1_y {A : Nat → Nat → Int32} {J : Nat → Nat → Int64} {G : Nat → Nat → Int} {b : Int} (h : CSy A J G) (ht : 0 ≤ G 28 12) (h8 : 8 ≤ G 28 12 + 1) (hw : mBits (mT1 G b) (G 28 12 + 1 - 8) 8 = 184) : CS1 A (gu (gu A 7 1 (zI (G 28 12 + 1))) 8 ((G 28 12 + 1 - 8) % 64).toNat (zI (mMat G ((G 28 12 + 1 - 8) % 64).toNat + 1))) G b := by
  obtain ⟨h0, h1, hL, h3, h4, h5, h9⟩ := h
  refine ⟨h0, rfl, h3, h4, h5, fun o ho => ?_, fun k a c => by rw [gu_ne _ _ _ c, gu_ne _ _ _ a]⟩
  rw [Mat_y ho ht h8 hw, gu_at]
  by_cases q : o = ((G 28 12 + 1 - 8) % 64).toNat
  · rw [if_pos ⟨rfl, q⟩, if_pos q, ← q]
  · rw [if_neg (fun z => q z.2), if_neg q]
    exact h9 o ho
theorem mDecT_k (G : Nat → Nat → Int) {k j : Nat} (h : ¬ (k = 28 ∧ (j = 19 ∨ j = 20 ∨ j = 21 ∨ j = 22 ∨ j = 23))) (h2 : k < 39 ∨ 42 < k) : mDecT G k j = G k j := by
  unfold mDecT
  split
  · rw [gu_at, if_neg (by omega)]
  · exact mDecG_k G (by omega) h2
theorem mTake_38 (G : Nat → Nat → Int) (b : Int) (j : Nat) : mTake G b 38 j = mT1 G b 38 j := by
  unfold mTake
  split
  · split
    · rw [gu_ne _ _ _ (by decide), gu_ne _ _ _ (by decide), gu_ne _ _ _ (by decide), gu_ne _ _ _ (by decide)]
    · rfl
  · split
    · rw [mCmp_k _ (by omega), gu_ne _ _ _ (by decide)]
    · split
      · exact mDecT_k _ (by omega) (by omega)
      · rfl
theorem mT1_28 (G : Nat → Nat → Int) (b : Int) {j : Nat} (h : j ≠ 12) : mT1 G b 28 j = G 28 j := mT1_k G b (by omega) (by omega)
theorem CSy_fin {A A1 Aq : Nat → Nat → Int32} {J1 : Nat → Nat → Int64} {G : Nat → Nat → Int} {b : Int} (h : CS1 A Aq G b) (hL : LaR (J1 7 2) (mT1 G b) (G 28 12 + 1)) (hA8 : A1 8 = Aq 8) (hA1 : A1 7 1 = Aq 7 1) (h0 : A1 7 0 = zI (mTake G b 28 14)) (h3 : mTake G b 28 14 ≠ 0 → A1 7 3 = zI ((G 28 12 + 1 - mTake G b 28 15) % 64)) (h4 : mTake G b 28 14 = 1 → A1 7 4 = zI (mTake G b 28 16)) (h5 : mTake G b 28 14 = 2 → A1 7 5 = zI (mTake G b 28 17)) : CSy A1 J1 (mTake G b) := by
  refine CSy.mk' (G := mT1 G b) (mTake_38 G b) ((mTake_12 G b).trans (mT1_12 G b).symm) h0 ?_ ?_ ?_ h4 h5 ?_
  · rw [hA1, mT1_12]; exact h.2.1
  · rw [mT1_12]; exact hL
  · rw [mT1_12]; exact h3
  · intro o ho
    rw [hA8]
    exact h.2.2.2.2.2.1 o ho
theorem T_a1 {G : Nat → Nat → Int} {b : Int} (h0 : G 28 14 = 0) (h8 : 8 ≤ G 28 12 + 1) (hw : mBits (mT1 G b) (G 28 12 + 1 - 8) 8 = 184) : mTake G b 28 14 = 1 ∧ mTake G b 28 15 = G 28 12 + 1 - 8 ∧ mTake G b 28 16 = 1 := by
  unfold mTake
  rw [if_pos h0, if_pos ⟨h8, hw⟩]
  exact ⟨rfl, rfl, rfl⟩
theorem T_a0 {G : Nat → Nat → Int} {b : Int} (h0 : G 28 14 = 0) (hw : ¬ (8 ≤ G 28 12 + 1 ∧ mBits (mT1 G b) (G 28 12 + 1 - 8) 8 = 184)) : mTake G b 28 14 = 0 := by
  unfold mTake
  rw [if_pos h0, if_neg hw, mT1_28 _ _ (by decide), h0]
theorem T_c {G : Nat → Nat → Int} {b : Int} (h0 : ¬ G 28 14 = 0) (h7 : ¬ G 28 12 + 1 - G 28 15 = 72) : mTake G b 28 14 = G 28 14 ∧ mTake G b 28 15 = G 28 15 ∧ mTake G b 28 16 = G 28 16 ∧ mTake G b 28 17 = G 28 17 := by
  unfold mTake
  rw [if_neg h0, if_neg h7]
  split
  · rw [mDecT_k _ (by omega) (by omega), mDecT_k _ (by omega) (by omega), mDecT_k _ (by omega) (by omega), mDecT_k _ (by omega) (by omega), mT1_28 _ _ (by decide), mT1_28 _ _ (by decide), mT1_28 _ _ (by decide), mT1_28 _ _ (by decide)]
    exact ⟨rfl, rfl, rfl, rfl⟩
  · rw [mT1_28 _ _ (by decide), mT1_28 _ _ (by decide), mT1_28 _ _ (by decide), mT1_28 _ _ (by decide)]
    exact ⟨rfl, rfl, rfl, rfl⟩
theorem T_b {G : Nat → Nat → Int} {b : Int} {v : Nat} (hp : mPast (mT1 G b)) (h7 : G 28 12 + 1 - G 28 15 = 72) (hv : (v : Int) = mBits (mT1 G b) (G 28 12 + 1 - 8) 8) (hG : G 28 14 = 1 ∨ G 28 14 = 2) : mTake G b 28 15 = G 28 12 + 1 - 8 ∧
    (G 28 14 = 1 → (¬ v = 184 → mTake G b 28 14 = 0) ∧ (v = 184 → G 28 16 + 1 = 3 → mTake G b 28 14 = 2 ∧ mTake G b 28 17 = 0) ∧ (v = 184 → ¬ G 28 16 + 1 = 3 → mTake G b 28 14 = 1 ∧ mTake G b 28 16 = G 28 16 + 1)) ∧
    (G 28 14 = 2 → (nCnt (v ^^^ 184) 8 ≤ 1 → mTake G b 28 14 = 2 ∧ mTake G b 28 17 = 0) ∧ (¬ nCnt (v ^^^ 184) 8 ≤ 1 → G 28 17 + 1 = 2 → mTake G b 28 14 = 0) ∧ (¬ nCnt (v ^^^ 184) 8 ≤ 1 → ¬ G 28 17 + 1 = 2 → mTake G b 28 14 = 2 ∧ mTake G b 28 17 = G 28 17 + 1)) := by
  have hv2 : v < 256 := by have := (mBits_range hp (G 28 12 + 1 - 8) 8).2; omega
  have e : mTake G b = mCmp (gu (mT1 G b) 28 15 (G 28 15 + 64)) := by
    unfold mTake
    rw [if_neg (by omega), if_pos h7]
  have hH : ∀ j, j ≠ 12 → j ≠ 15 → gu (mT1 G b) 28 15 (G 28 15 + 64) 28 j = G 28 j := fun j a c => by rw [gu_at, if_neg (by omega), mT1_28 _ _ a]
  have h15 : gu (mT1 G b) 28 15 (G 28 15 + 64) 28 15 = G 28 15 + 64 := rfl
  have hw := wrong_cnt (G := gu (mT1 G b) 28 15 (G 28 15 + 64)) (v := v) (fun j => hp j) (by
    rw [h15, hv, show G 28 12 + 1 - 8 = G 28 15 + 64 from by omega]
    exact (mBits_38 (fun j => by rw [gu_ne _ _ _ (by decide)]) _ _).symm)
  have hx := xor_0 v hv2
  rw [e]
  unfold mCmp
  rw [hH 14 (by decide) (by decide)]
  refine ⟨?_, ?_, ?_⟩
  · split
    · rw [gu_at, if_neg (by omega), gu_at, if_neg (by omega), gu_at, if_neg (by omega), gu_at, if_neg (by omega), h15]; omega
    · rw [gu_at, if_neg (by omega), gu_at, if_neg (by omega), gu_at, if_neg (by omega), h15]; omega
  · intro h1
    rw [if_pos h1]
    have m14 : ∀ w x y z : Int, ∀ H : Nat → Nat → Int, gu (gu (gu (gu H 28 16 w) 28 14 x) 28 17 y) 28 18 z 28 14 = x := fun _ _ _ _ _ => rfl
    have m16 : ∀ w x y z : Int, ∀ H : Nat → Nat → Int, gu (gu (gu (gu H 28 16 w) 28 14 x) 28 17 y) 28 18 z 28 16 = w := fun _ _ _ _ _ => rfl
    have m17 : ∀ w x y z : Int, ∀ H : Nat → Nat → Int, gu (gu (gu (gu H 28 16 w) 28 14 x) 28 17 y) 28 18 z 28 17 = y := fun _ _ _ _ _ => rfl
    rw [m14, m16, m17]
    unfold mStC mMt
    rw [hH 16 (by decide) (by decide), hw]
    refine ⟨fun q => ?_, fun q q2 => ?_, fun q q2 => ?_⟩
    · rw [if_pos (by omega)]
    · have : nCnt (v ^^^ 184) 8 = 0 := hx.mpr q
      rw [this]
      rw [if_neg (by decide), if_pos (by rw [if_pos (by rfl)]; exact q2)]
      exact ⟨rfl, rfl⟩
    · have : nCnt (v ^^^ 184) 8 = 0 := hx.mpr q
      rw [this]
      rw [if_neg (by decide), if_neg (by rw [if_pos (by rfl)]; exact q2), if_pos (by rfl)]
      exact ⟨rfl, rfl⟩
  · intro h1
    rw [if_neg (by omega)]
    have m14 : ∀ x y z : Int, ∀ H : Nat → Nat → Int, gu (gu (gu H 28 17 x) 28 14 y) 28 18 z 28 14 = y := fun _ _ _ _ => rfl
    have m17 : ∀ x y z : Int, ∀ H : Nat → Nat → Int, gu (gu (gu H 28 17 x) 28 14 y) 28 18 z 28 17 = x := fun _ _ _ _ => rfl
    rw [m14, m17]
    unfold mStL mMs
    rw [hH 17 (by decide) (by decide), hw]
    refine ⟨fun q => ?_, fun q q2 => ?_, fun q q2 => ?_⟩
    · rw [if_pos (show (nCnt (v ^^^ 184) 8 : Int) ≤ 1 by omega)]
      exact ⟨rfl, rfl⟩
    · rw [if_neg (show ¬ (nCnt (v ^^^ 184) 8 : Int) ≤ 1 by omega), if_pos q2]
    · rw [if_neg (show ¬ (nCnt (v ^^^ 184) 8 : Int) ≤ 1 by omega), if_neg q2]
      exact ⟨rfl, rfl⟩
