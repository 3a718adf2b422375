/-! ===== widths and conventions ===== -/
def gHf (w : Int) : Int := 2 ^ (w - 1).toNat
theorem w_cases {w : Int} (h : 1 ≤ w) (h2 : w ≤ 12) : w = 1 ∨ w = 2 ∨ w = 3 ∨ w = 4 ∨ w = 5 ∨ w = 6 ∨ w = 7 ∨ w = 8 ∨ w = 9 ∨ w = 10 ∨ w = 11 ∨ w = 12 := by omega
theorem gHf_range {w : Int} (h : 1 ≤ w) (h2 : w ≤ 12) : 1 ≤ gHf w ∧ gHf w ≤ 2048 := by
  rcases w_cases h h2 with rfl | rfl | rfl | rfl | rfl | rfl | rfl | rfl | rfl | rfl | rfl | rfl <;> decide +kernel
theorem gHf_2 {w : Int} (h : 2 ≤ w) (h2 : w ≤ 12) : 2 ≤ gHf w := by
  rcases w_cases (w := w) (by omega) h2 with rfl | rfl | rfl | rfl | rfl | rfl | rfl | rfl | rfl | rfl | rfl | rfl <;> first | (exfalso; omega) | decide +kernel
theorem shl_hf {w : Int} (h : 1 ≤ w) (h2 : w ≤ 12) : nI 1 <<< (zI (w - 1) &&& 31) = zI (gHf w) := by
  rcases w_cases h h2 with rfl | rfl | rfl | rfl | rfl | rfl | rfl | rfl | rfl | rfl | rfl | rfl <;> decide +kernel
theorem shl_w {w : Int} (h : 1 ≤ w) (h2 : w ≤ 12) : nI 1 <<< (zI w &&& 31) = zI (2 * gHf w) := by
  rcases w_cases h h2 with rfl | rfl | rfl | rfl | rfl | rfl | rfl | rfl | rfl | rfl | rfl | rfl <;> decide +kernel
def gLo (cv w : Int) : Int := if cv = 0 then 0 else if cv = 2 then 1 - gHf w else -gHf w
def gHi (cv w : Int) : Int := if cv = 0 then 2 * gHf w - 1 else gHf w - 1
def gEnc (cv w v : Int) : Int := if cv = 1 then (if v < 0 then v + 2 * gHf w else v) else if cv = 2 then (if v < 0 then gHf w - v else v) else if cv = 3 then v + gHf w else v
def gDec (cv w b : Int) : Int := if cv = 1 then (if gHf w ≤ b then b - 2 * gHf w else b) else if cv = 2 then (if gHf w ≤ b then gHf w - b else b) else if cv = 3 then b - gHf w else b
/-! ===== taken bits ===== -/
def mBits (G : Nat → Nat → Int) (fr : Int) : Nat → Int
  | 0 => 0
  | q + 1 => 2 * mBits G fr q + G 38 (fr + (q : Int)).toNat
abbrev mPast (G : Nat → Nat → Int) : Prop := ∀ j, G 38 j = 0 ∨ G 38 j = 1
theorem mBits_range {G : Nat → Nat → Int} (h : mPast G) (fr : Int) (q : Nat) : 0 ≤ mBits G fr q ∧ mBits G fr q < 2 ^ q := by
  induction q with
  | zero => exact ⟨Int.le_refl _, by simp [mBits]⟩
  | succ q ih =>
    have h1 := h (fr + (q : Int)).toNat
    simp only [mBits, Int.pow_succ]
    generalize (2 : Int) ^ q = z at ih ⊢
    omega
theorem mBits_12 {G : Nat → Nat → Int} (h : mPast G) (fr : Int) {q : Nat} (hq : q ≤ 12) : 0 ≤ mBits G fr q ∧ mBits G fr q < 4096 := by
  have h1 := mBits_range h fr q
  have h2 : (2 : Int) ^ q ≤ 2 ^ 12 := by
    have := Nat.pow_le_pow_right (show 0 < 2 by decide) hq
    exact_mod_cast this
  have h3 : (2 : Int) ^ 12 = 4096 := by decide
  omega
def mCnt (G : Nat → Nat → Int) (o : Nat) : Nat → Int
  | 0 => 0
  | q + 1 => mCnt G o q + (if mBits G ((o + 64 * q : Nat) : Int) 8 = 184 then 1 else 0)
theorem mCnt_range (G : Nat → Nat → Int) (o q : Nat) : 0 ≤ mCnt G o q ∧ mCnt G o q ≤ q := by
  induction q with
  | zero => exact ⟨Int.le_refl _, by simp [mCnt]⟩
  | succ q ih => simp only [mCnt]; split <;> omega
/-- the sync words at an offset -/
def mMat (G : Nat → Nat → Int) (o : Nat) : Int := mCnt G o (((G 28 12).toNat + 56 - o) / 64)
def mBest (f : Nat → Int) : Nat → Nat
  | 0 => 0
  | k + 1 => if f (mBest f k) < f (k + 1) then k + 1 else mBest f k
theorem mBest_le (f : Nat → Int) (k : Nat) : mBest f k ≤ k := by
  induction k with
  | zero => exact Nat.le_refl _
  | succ k ih => simp only [mBest]; split <;> omega
theorem MRep.to {A : Nat → Nat → Int32} {G G' : Nat → Nat → Int} (h : MRep A G) (e : ∀ k j, 28 ≤ k → k < 49 → G k j = G' k j) : MRep A G' := fun k j h1 h2 h3 => by rw [h k j h1 h2 h3, e k j h1 h2]
theorem gr_at {α : Type} (A : Nat → Nat → α) (k : Nat) (f : Nat → α) (k' j' : Nat) : gr A k f k' j' = if k' = k then f j' else A k' j' := by
  unfold gr
  by_cases h : k' = k <;> simp [h]
def mDrop (G : Nat → Nat → Int) (ix cnt k : Nat) : Nat → Nat → Int := gr (gu G 28 10 (G 28 10 - (cnt : Int))) 37 (fun j => if ix ≤ j ∧ j < k then G 37 (j + cnt) else G 37 j)
theorem mMat_range {G : Nat → Nat → Int} (h : 0 ≤ G 28 12 ∧ G 28 12 ≤ 8000) (o : Nat) : 0 ≤ mMat G o ∧ mMat G o ≤ 1000 := by
  have := mCnt_range G o (((G 28 12).toNat + 56 - o) / 64)
  unfold mMat
  omega
