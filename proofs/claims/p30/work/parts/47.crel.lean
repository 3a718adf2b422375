/-! ===== the class's state over the check's ghost ===== -/
/-- a point, all of it -/
def PtF (A : Nat → Nat → Int32) (G : Nat → Nat → Int) (i : Nat) : Prop := PtR A G i ∧ A (33 + 2 * i) 6 = zI (G 35 i) ∧ A (33 + 2 * i) 8 = zI (G 41 i) ∧ A (33 + 2 * i) 9 = zI (G 42 i) ∧ (G 41 i = 0 → A (33 + 2 * i + 1) 0 = nI 0) ∧ (G 41 i ≠ 0 → A (33 + 2 * i + 1) 0 = nI 1 ∧ A (33 + 2 * i + 1) 1 = zI (G 39 i) ∧ A (33 + 2 * i + 1) 2 = zI (G 40 i))
theorem PtF.to {A A' : Nat → Nat → Int32} {G G' : Nat → Nat → Int} {i : Nat} (h : PtF A G i) (h1 : A' (33 + 2 * i) = A (33 + 2 * i)) (h2 : A' (33 + 2 * i + 1) = A (33 + 2 * i + 1)) (h3 : ∀ k, 29 ≤ k → k ≤ 42 → k ≠ 36 → k ≠ 37 → k ≠ 38 → G' k i = G k i) : PtF A' G' i := by
  unfold PtF PtR at *
  rw [h1, h2, h3 29 (by omega) (by omega) (by omega) (by omega) (by omega), h3 30 (by omega) (by omega) (by omega) (by omega) (by omega), h3 31 (by omega) (by omega) (by omega) (by omega) (by omega), h3 32 (by omega) (by omega) (by omega) (by omega) (by omega), h3 33 (by omega) (by omega) (by omega) (by omega) (by omega), h3 34 (by omega) (by omega) (by omega) (by omega) (by omega), h3 35 (by omega) (by omega) (by omega) (by omega) (by omega), h3 39 (by omega) (by omega) (by omega) (by omega) (by omega), h3 40 (by omega) (by omega) (by omega) (by omega) (by omega), h3 41 (by omega) (by omega) (by omega) (by omega) (by omega), h3 42 (by omega) (by omega) (by omega) (by omega) (by omega)]
  exact h
/-- but for one point nothing changed -/
def POnly (A A1 : Nat → Nat → Int32) (i : Nat) : Prop := ∀ k, k ≠ 33 + 2 * i → k ≠ 33 + 2 * i + 1 → A1 k = A k
theorem POnly.rf {A : Nat → Nat → Int32} {i : Nat} : POnly A A i := fun _ _ _ => rfl
theorem POnly.trans {A A1 A2 : Nat → Nat → Int32} {i : Nat} (h : POnly A A1 i) (h2 : POnly A1 A2 i) : POnly A A2 i := fun k a b => (h2 k a b).trans (h k a b)
theorem POnly.up {A A1 : Nat → Nat → Int32} {i : Nat} (h : POnly A A1 i) (j : Nat) (v : Int32) : POnly A (gu A1 (33 + 2 * i) j v) i := fun k a b => by rw [gu_ne _ _ _ a]; exact h k a b
theorem POnly.up1 {A A1 : Nat → Nat → Int32} {i : Nat} (h : POnly A A1 i) (j : Nat) (v : Int32) : POnly A (gu A1 (33 + 2 * i + 1) j v) i := fun k a b => by rw [gu_ne _ _ _ b]; exact h k a b
/-- but for the points nothing changed -/
def PsOnly (A A1 : Nat → Nat → Int32) : Prop := ∀ k, k < 33 → A1 k = A k
theorem PsOnly.rf {A : Nat → Nat → Int32} : PsOnly A A := fun _ _ => rfl
theorem PsOnly.trans {A A1 A2 : Nat → Nat → Int32} (h : PsOnly A A1) (h2 : PsOnly A1 A2) : PsOnly A A2 := fun k a => (h2 k a).trans (h k a)
theorem POnly.ps {A A1 : Nat → Nat → Int32} {i : Nat} (h : POnly A A1 i) : PsOnly A A1 := fun k a => h k (by omega) (by omega)
theorem mGive_39 (G : Nat → Nat → Int) (c : Int) (p e : Nat) : mGive G c p (e + 1) 39 p = mVal G p e := by
  unfold mGive
  rw [gr_ne _ _ (by decide), gr_ne _ _ (by decide), gr_self]
  show (if p < p ∧ _ then _ else if p = p ∧ 0 < e + 1 then _ else _) = _
  rw [if_neg (by omega), if_pos ⟨rfl, by omega⟩]
  congr 1
  omega
theorem mGive_40 (G : Nat → Nat → Int) (c : Int) (p e : Nat) : mGive G c p (e + 1) 40 p = 64 * G 28 20 + mAt G p e := by
  unfold mGive
  rw [gr_ne _ _ (by decide), gr_self]
  show (if p < p ∧ _ then _ else if p = p ∧ 0 < e + 1 then _ else _) = _
  rw [if_neg (by omega), if_pos ⟨rfl, by omega⟩]
  congr 2
  omega
/-- a sample is read -/
theorem PtF_read {A : Nat → Nat → Int32} {G : Nat → Nat → Int} {c x y z : Int} {i e : Nat} (h : PtF A (mGive G c i e) i) (hx : x = mVal G i e) (hy : y = 64 * G 28 20 + mAt G i e) (hz : z = G 41 i + (e : Int) + 1) (h41 : 0 ≤ G 41 i) : PtF (gu (gu (gu (gu A (33 + 2 * i + 1) 0 (nI 1)) (33 + 2 * i + 1) 1 (zI x)) (33 + 2 * i + 1) 2 (zI y)) (33 + 2 * i) 8 (zI z)) (mGive G c i (e + 1)) i := by
  obtain ⟨⟨a0, a1, a2, a3, a4, a5⟩, h2, h3, h4, h5, h6⟩ := h
  have g : ∀ k, k ≠ 39 → k ≠ 40 → k ≠ 41 → mGive G c i (e + 1) k i = mGive G c i e k i := fun k q1 q2 q3 => (mGive_k G c i (e + 1) q1 q2 q3 i).trans (mGive_k G c i e q1 q2 q3 i).symm
  have e41 : mGive G c i (e + 1) 41 i = z := by rw [mGive_41, hz]; omega
  have p0 : ∀ j, j ≠ 8 → (gu (gu (gu (gu A (33 + 2 * i + 1) 0 (nI 1)) (33 + 2 * i + 1) 1 (zI x)) (33 + 2 * i + 1) 2 (zI y)) (33 + 2 * i) 8 (zI z)) (33 + 2 * i) j = A (33 + 2 * i) j := by
    intro j hj
    rw [gu_at, if_neg (by omega), gu_at, if_neg (by omega), gu_at, if_neg (by omega), gu_at, if_neg (by omega)]
  have p8 : (gu (gu (gu (gu A (33 + 2 * i + 1) 0 (nI 1)) (33 + 2 * i + 1) 1 (zI x)) (33 + 2 * i + 1) 2 (zI y)) (33 + 2 * i) 8 (zI z)) (33 + 2 * i) 8 = zI z := by
    rw [gu_at, if_pos ⟨rfl, rfl⟩]
  have q0 : (gu (gu (gu (gu A (33 + 2 * i + 1) 0 (nI 1)) (33 + 2 * i + 1) 1 (zI x)) (33 + 2 * i + 1) 2 (zI y)) (33 + 2 * i) 8 (zI z)) (33 + 2 * i + 1) 0 = nI 1 := by
    rw [gu_at, if_neg (by omega), gu_at, if_neg (by omega), gu_at, if_neg (by omega), gu_at, if_pos ⟨rfl, rfl⟩]
  have q1 : (gu (gu (gu (gu A (33 + 2 * i + 1) 0 (nI 1)) (33 + 2 * i + 1) 1 (zI x)) (33 + 2 * i + 1) 2 (zI y)) (33 + 2 * i) 8 (zI z)) (33 + 2 * i + 1) 1 = zI x := by
    rw [gu_at, if_neg (by omega), gu_at, if_neg (by omega), gu_at, if_pos ⟨rfl, rfl⟩]
  have q2 : (gu (gu (gu (gu A (33 + 2 * i + 1) 0 (nI 1)) (33 + 2 * i + 1) 1 (zI x)) (33 + 2 * i + 1) 2 (zI y)) (33 + 2 * i) 8 (zI z)) (33 + 2 * i + 1) 2 = zI y := by
    rw [gu_at, if_neg (by omega), gu_at, if_pos ⟨rfl, rfl⟩]
  refine ⟨⟨?_, ?_, ?_, ?_, ?_, ?_⟩, ?_, ?_, ?_, ?_, ?_⟩
  · rw [p0 0 (by decide), g 29 (by decide) (by decide) (by decide)]; exact a0
  · rw [p0 1 (by decide), g 30 (by decide) (by decide) (by decide)]; exact a1
  · rw [p0 2 (by decide), g 31 (by decide) (by decide) (by decide)]; exact a2
  · rw [p0 3 (by decide), g 32 (by decide) (by decide) (by decide)]; exact a3
  · rw [p0 4 (by decide), g 33 (by decide) (by decide) (by decide)]; exact a4
  · rw [p0 5 (by decide), g 34 (by decide) (by decide) (by decide)]; exact a5
  · rw [p0 6 (by decide), g 35 (by decide) (by decide) (by decide)]; exact h2
  · rw [p8, e41]
  · rw [p0 9 (by decide), g 42 (by decide) (by decide) (by decide)]; exact h4
  · rw [e41]; intro h9; omega
  · intro _
    rw [q0, q1, q2, mGive_39, mGive_40, hx, hy]
    exact ⟨rfl, rfl, rfl⟩
/-- the frame's bits are those that were taken last -/
def FrR (F : Int64) (G : Nat → Nat → Int) (top : Int) : Prop := ∀ q : Nat, q < 64 → ((lnat F).testBit q = true ↔ G 38 (top - (q : Int)).toNat = 1)
theorem rd_raw {F : Int64} {G : Nat → Nat → Int} {top w sh : Int} (hp : mPast G) (hF : FrR F G top) (hw : 1 ≤ w) (hw2 : w ≤ 12) (h0 : 0 ≤ sh) (h1 : sh + w ≤ 64) : (gushr F (zI sh)).toInt32 &&& zI (2 * gHf w - 1) = zI (mBits G (top - sh - w + 1) w.toNat) := by
  have h2 : (zI (2 * gHf w - 1)).toBitVec.toNat = 2 ^ w.toNat - 1 := by
    rcases w_cases hw hw2 with h | h | h | h | h | h | h | h | h | h | h | h <;> subst h <;> decide
  rw [ln_low _ w.toNat (by omega) h2, zI_nat h0, ln_ushr _ (by omega), ← zI_n, nat_bits hp hF w.toNat sh.toNat (by omega)]
  congr 2
  omega
theorem rd_byte {F : Int64} {G : Nat → Nat → Int} {top : Int} {s : Nat} (hp : mPast G) (hF : FrR F G top) (h1 : s + 8 ≤ 64) : (gushr F (nI s)).toInt32 &&& nI 255 = zI (mBits G (top - (s : Int) - 7) 8) := by
  rw [ln_low _ 8 (by decide) (by decide), ln_ushr _ (by omega), ← zI_n, nat_bits hp hF 8 s h1]
  congr 2
  omega
