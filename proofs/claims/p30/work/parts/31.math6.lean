/-! ===== decoding ===== -/
theorem mBits_38 {G G' : Nat → Nat → Int} (h : ∀ j, G' 38 j = G 38 j) (fr : Int) (q : Nat) : mBits G' fr q = mBits G fr q := by
  induction q with
  | zero => rfl
  | succ q ih => simp only [mBits, ih, h]
def mK (G : Nat → Nat → Int) : Int := mBits G (G 28 15 + 8) 8
def mFar (G : Nat → Nat → Int) : Int := if G 28 19 = -1 then 0 else (mK G - G 28 19 + 256) % 256
/-- the missing samples of a point, behind q lost frames -/
def mMi (G : Nat → Nat → Int) (i : Nat) : Nat → Int
  | 0 => G 42 i
  | q + 1 => mMi G i q + (if (G 28 19 + ((q + 1 : Nat) : Int)) % 256 % G 31 i = G 33 i then G 32 i else 0)
def mMissI (G : Nat → Nat → Int) (q p : Nat) : Nat → Nat → Int := gu (gr G 42 (fun i => if i < p then mMi G i (q + 1) else if (i : Int) < G 28 0 then mMi G i q else G 42 i)) 28 22 (G 28 22 + (q : Int))
theorem mMissI_0 (G : Nat → Nat → Int) (k j : Nat) : G k j = mMissI G 0 0 k j := by
  simp only [mMissI, gu_at, gr_at]
  by_cases q1 : k = 28 ∧ j = 22
  · rw [if_pos q1, q1.1, q1.2]; simp
  · rw [if_neg q1]
    by_cases q2 : k = 42
    · subst q2
      rw [if_pos rfl, if_neg (by omega)]
      split <;> rfl
    · rw [if_neg q2]
theorem mMissI_p {A : Nat → Nat → Int32} {G : Nat → Nat → Int} {q p : Nat} {x : Int} (h : MRep A (mMissI G q p)) (hx : x = mMi G p (q + 1)) : MRep (gu A 42 p (zI x)) (mMissI G q (p + 1)) := by
  refine (h.up 42 p x).to fun k j _ _ => ?_
  simp only [mMissI, gu_at, gr_at]
  by_cases q1 : k = 28 ∧ j = 22
  · rw [if_pos q1, if_pos q1, if_neg (by omega)]
  · rw [if_neg q1, if_neg q1]
    by_cases q2 : k = 42
    · subst q2
      simp only [true_and, ↓reduceIte]
      by_cases q3 : j = p
      · rw [if_pos q3, if_pos (by omega), hx, q3]
      · rw [if_neg q3]
        by_cases q4 : j < p
        · rw [if_pos q4, if_pos (by omega)]
        · have q5 : ¬ j < p + 1 := by omega
          rw [if_neg q4, if_neg q5]
    · rw [if_neg (fun z => q2 z.1), if_neg q2, if_neg q2]
theorem mMissI_q {A : Nat → Nat → Int32} {G : Nat → Nat → Int} {q p : Nat} {y : Int} (h : MRep A (mMissI G q p)) (hp : (p : Int) = G 28 0) (hy : y = G 28 22 + (q : Int) + 1) : MRep (gu A 28 22 (zI y)) (mMissI G (q + 1) 0) := by
  refine (h.up 28 22 y).to fun k j _ _ => ?_
  simp only [mMissI, gu_at, gr_at]
  by_cases q1 : k = 28 ∧ j = 22
  · rw [if_pos q1, if_pos q1, hy]; omega
  · rw [if_neg q1, if_neg q1, if_neg q1]
    by_cases q2 : k = 42
    · subst q2
      simp only [↓reduceIte]
      by_cases q4 : j < p
      · rw [if_pos q4, if_neg (by omega), if_pos (by omega)]
      · rw [if_neg q4, if_neg (by omega), if_neg (by omega), if_neg (by omega)]
    · rw [if_neg q2, if_neg q2]
theorem MRep.stMi {A : Nat → Nat → Int32} {G : Nat → Nat → Int} {q p : Nat} (h : MRep A (mMissI G q p)) : MSt A G := h.st.to rfl (fun k j a b => by
  simp only [mMissI, gu_at, gr_at]
  rw [if_neg (by omega), if_neg (by omega)])
/-- the points get their samples: the first p of them, and e of the next -/
def mGive (G : Nat → Nat → Int) (c : Int) (p e : Nat) : Nat → Nat → Int :=
  gr (gr (gr G 39 (fun i => if i < p ∧ c % G 31 i = G 33 i then mVal G i (G 32 i - 1) else if i = p ∧ 0 < e then mVal G i ((e : Int) - 1) else G 39 i))
    40 (fun i => if i < p ∧ c % G 31 i = G 33 i then 64 * G 28 20 + mAt G i (G 32 i - 1) else if i = p ∧ 0 < e then 64 * G 28 20 + mAt G i ((e : Int) - 1) else G 40 i))
    41 (fun i => if i < p ∧ c % G 31 i = G 33 i then G 41 i + G 32 i else if i = p then G 41 i + (e : Int) else G 41 i)
theorem mGive_0 (G : Nat → Nat → Int) (c : Int) (k j : Nat) : G k j = mGive G c 0 0 k j := by
  simp only [mGive, gr_at]
  by_cases q1 : k = 41
  · subst q1; rw [if_pos rfl, if_neg (by omega)]; split <;> simp
  · rw [if_neg q1]
    by_cases q2 : k = 40
    · subst q2; rw [if_pos rfl, if_neg (by omega), if_neg (by omega)]
    · rw [if_neg q2]
      by_cases q3 : k = 39
      · subst q3; rw [if_pos rfl, if_neg (by omega), if_neg (by omega)]
      · rw [if_neg q3]
theorem mGive_e {A : Nat → Nat → Int32} {G : Nat → Nat → Int} {c : Int} {p e : Nat} {x y z : Int} (h : MRep A (mGive G c p e)) (hx : x = mVal G p e) (hy : y = 64 * G 28 20 + mAt G p e) (hz : z = G 41 p + (e : Int) + 1) : MRep (gu (gu (gu A 39 p (zI x)) 40 p (zI y)) 41 p (zI z)) (mGive G c p (e + 1)) := by
  refine (((h.up 39 p x).up 40 p y).up 41 p z).to fun k j _ _ => ?_
  simp only [mGive, gu_at, gr_at]
  have e1 : ((e + 1 : Nat) : Int) - 1 = (e : Int) := by omega
  by_cases q1 : k = 41
  · subst q1
    simp only [true_and, ↓reduceIte]
    by_cases q5 : j = p
    · subst q5; rw [if_pos rfl, if_neg (by omega), if_pos rfl, hz]; omega
    · rw [if_neg q5, if_neg q5, if_neg (fun z => absurd z.1 (by decide)), if_neg (fun z => absurd z.1 (by decide))]
      by_cases q6 : j < p ∧ c % G 31 j = G 33 j
      · rw [if_pos q6, if_pos q6]
      · rw [if_neg q6, if_neg q6, if_neg q5]
  · rw [if_neg (fun z => q1 z.1), if_neg q1, if_neg q1]
    by_cases q2 : k = 40
    · subst q2
      simp only [true_and, ↓reduceIte]
      by_cases q5 : j = p
      · subst q5; rw [if_pos rfl, if_neg (by omega), if_pos ⟨rfl, by omega⟩, hy, e1]
      · rw [if_neg q5, if_neg (fun z => absurd z.1 (by decide))]
        by_cases q6 : j < p ∧ c % G 31 j = G 33 j
        · rw [if_pos q6, if_pos q6]
        · rw [if_neg q6, if_neg q6, if_neg (fun z => q5 z.1), if_neg (fun z => q5 z.1)]
    · rw [if_neg (fun z => q2 z.1), if_neg q2, if_neg q2]
      by_cases q3 : k = 39
      · subst q3
        simp only [true_and, ↓reduceIte]
        by_cases q5 : j = p
        · subst q5; rw [if_pos rfl, if_neg (by omega), if_pos ⟨rfl, by omega⟩, hx, e1]
        · rw [if_neg q5]
          by_cases q6 : j < p ∧ c % G 31 j = G 33 j
          · rw [if_pos q6, if_pos q6]
          · rw [if_neg q6, if_neg q6, if_neg (fun z => q5 z.1), if_neg (fun z => q5 z.1)]
      · rw [if_neg (fun z => q3 z.1), if_neg q3, if_neg q3]
theorem mGive_p {G : Nat → Nat → Int} {c : Int} {p e : Nat} (he : (c % G 31 p = G 33 p ∧ (e : Int) = G 32 p ∧ 0 < e) ∨ (¬ c % G 31 p = G 33 p ∧ e = 0)) (k j : Nat) : mGive G c p e k j = mGive G c (p + 1) 0 k j := by
  simp only [mGive, gr_at]
  have hj : j = p ∨ j ≠ p := by omega
  by_cases q1 : k = 41
  · subst q1
    simp only [↓reduceIte]
    rcases hj with q5 | q5
    · subst q5
      rcases he with he | he
      · rw [if_neg (by omega), if_pos rfl, if_pos ⟨by omega, he.1⟩, he.2.1]
      · rw [if_neg (by omega), if_pos rfl, if_neg (fun z => he.1 z.2), if_neg (by omega), he.2]; simp
    · by_cases q6 : j < p ∧ c % G 31 j = G 33 j
      · rw [if_pos q6, if_pos ⟨by omega, q6.2⟩]
      · rw [if_neg q6, if_neg q5, if_neg (fun z => q6 ⟨by omega, z.2⟩)]
        split <;> simp
  · rw [if_neg q1, if_neg q1]
    by_cases q2 : k = 40
    · subst q2
      simp only [↓reduceIte]
      rcases hj with q5 | q5
      · subst q5
        rcases he with he | he
        · rw [if_neg (by omega), if_pos ⟨rfl, he.2.2⟩, if_pos ⟨by omega, he.1⟩, he.2.1]
        · rw [if_neg (by omega), if_neg (by omega), if_neg (fun z => he.1 z.2), if_neg (by omega)]
      · by_cases q6 : j < p ∧ c % G 31 j = G 33 j
        · rw [if_pos q6, if_pos ⟨by omega, q6.2⟩]
        · rw [if_neg q6, if_neg (fun z => q5 z.1), if_neg (fun z => q6 ⟨by omega, z.2⟩), if_neg (by omega)]
    · rw [if_neg q2, if_neg q2]
      by_cases q3 : k = 39
      · subst q3
        simp only [↓reduceIte]
        rcases hj with q5 | q5
        · subst q5
          rcases he with he | he
          · rw [if_neg (by omega), if_pos ⟨rfl, he.2.2⟩, if_pos ⟨by omega, he.1⟩, he.2.1]
          · rw [if_neg (by omega), if_neg (by omega), if_neg (fun z => he.1 z.2), if_neg (by omega)]
        · by_cases q6 : j < p ∧ c % G 31 j = G 33 j
          · rw [if_pos q6, if_pos ⟨by omega, q6.2⟩]
          · rw [if_neg q6, if_neg (fun z => q5 z.1), if_neg (fun z => q6 ⟨by omega, z.2⟩), if_neg (by omega)]
      · rw [if_neg q3, if_neg q3]
theorem mGive_k (G : Nat → Nat → Int) (c : Int) (p e : Nat) {k : Nat} (h1 : k ≠ 39) (h2 : k ≠ 40) (h3 : k ≠ 41) (j : Nat) : mGive G c p e k j = G k j := by
  simp only [mGive, gr_at]
  rw [if_neg h3, if_neg h2, if_neg h1]
def mNum (G : Nat → Nat → Int) : Int := if G 28 19 = -1 then mK G else G 28 20 + mFar G
/-- a frame that is used: its number is known, nothing is given yet -/
def mDec1 (G : Nat → Nat → Int) : Nat → Nat → Int := gu (gu (gu (mMissI G (mFar G - 1).toNat 0) 28 20 (mNum G)) 28 19 (mK G)) 28 21 (G 28 21 + 1)
def mRepeat (G : Nat → Nat → Int) : Prop := G 28 19 ≠ -1 ∧ mFar G = 0
/-- a frame is decoded -/
def mDecG (G : Nat → Nat → Int) : Nat → Nat → Int := mGive (mDec1 G) (mK G) (G 28 0).toNat 0
abbrev mCtrOk (G : Nat → Nat → Int) : Prop := -1 ≤ G 28 19 ∧ G 28 19 < 256
theorem mK_range {G : Nat → Nat → Int} (h : mPast G) : 0 ≤ mK G ∧ mK G < 256 := by
  have := mBits_range h (G 28 15 + 8) 8
  have h2 : (2 : Int) ^ 8 = 256 := by decide
  unfold mK
  omega
theorem mFar_range {G : Nat → Nat → Int} : 0 ≤ mFar G ∧ mFar G < 256 := by
  unfold mFar
  split <;> omega
theorem mMi_range {G : Nat → Nat → Int} {i : Nat} (h32 : G 32 i = 1 ∨ G 32 i = 2) (q : Nat) : G 42 i ≤ mMi G i q ∧ mMi G i q ≤ G 42 i + 2 * q := by
  induction q with
  | zero => simp [mMi]
  | succ q ih => simp only [mMi]; split <;> omega
theorem MRep.stGive {A : Nat → Nat → Int32} {G : Nat → Nat → Int} {c : Int} {p e : Nat} (h : MRep A (mGive G c p e)) : MSt A G := h.st.to (mGive_k G c p e (by omega) (by omega) (by omega) 0) (fun k j a b => mGive_k G c p e (by omega) (by omega) (by omega) j)
theorem mGive_41 (G : Nat → Nat → Int) (c : Int) (p e : Nat) : mGive G c p e 41 p = G 41 p + (e : Int) := by
  simp only [mGive, gr_at, ↓reduceIte]
  rw [if_neg (by omega)]
theorem mDec1_k (G : Nat → Nat → Int) {k : Nat} (j : Nat) (h1 : k ≠ 28) (h2 : k ≠ 42) : mDec1 G k j = G k j := by
  simp only [mDec1, mMissI, gu_at, gr_at]
  rw [if_neg (by omega), if_neg (by omega), if_neg (by omega), if_neg (by omega), if_neg h2]
theorem mMissI_42 {G : Nat → Nat → Int} {q p : Nat} (h : (p : Int) < G 28 0) : mMissI G q p 42 p = mMi G p q := by
  have h1 : ¬ p < p := Nat.lt_irrefl p
  simp [mMissI, gu_at, gr_at, h]
