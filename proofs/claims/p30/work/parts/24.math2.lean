/-! ===== free places ===== -/
def mFr (G : Nat → Nat → Int) (fr ea : Int) (c : Int) (k : Nat) : Prop := mUser G c (fr + (k : Int)) (G 28 0).toNat = -1 ∧ (ea = 1 ∨ mUser G c (24 + fr + (k : Int)) (G 28 0).toNat = -1)
def mPO (G : Nat → Nat → Int) (ph pe fr w ea cc : Int) : Prop := ∀ c : Int, ph ≤ c → c < cc → (c - ph) % pe = 0 → ∀ j : Nat, (j : Int) < w → mFr G fr ea c j
def mPI (G : Nat → Nat → Int) (ph pe fr w ea cc : Int) (k : Nat) : Prop := mPO G ph pe fr w ea cc ∧ ∀ j : Nat, j < k → mFr G fr ea cc j
theorem mPI_1 {G : Nat → Nat → Int} {ph pe fr w ea cc : Int} {k : Nat} (h : mPI G ph pe fr w ea cc k) (h2 : mFr G fr ea cc k) : mPI G ph pe fr w ea cc (k + 1) := ⟨h.1, fun j hj => by
  by_cases e : j = k
  · subst e; exact h2
  · exact h.2 j (by omega)⟩
theorem mPI_0a {G : Nat → Nat → Int} {ph pe fr w ea cc : Int} {k : Nat} (h : ¬ mPI G ph pe fr w ea cc k) : ¬ mPI G ph pe fr w ea cc (k + 1) := fun z => h ⟨z.1, fun j hj => z.2 j (by omega)⟩
theorem mPI_0b {G : Nat → Nat → Int} {ph pe fr w ea cc : Int} {k : Nat} (h : ¬ mFr G fr ea cc k) : ¬ mPI G ph pe fr w ea cc (k + 1) := fun z => h (z.2 k (by omega))
theorem mPO_step {G : Nat → Nat → Int} {ph pe fr w ea cc : Int} {k : Nat} (hpe : pe = 1 ∨ pe = 2 ∨ pe = 4) (h2 : (cc - ph) % pe = 0) (h1 : ph ≤ cc) (h3 : (k : Int) = w) : mPI G ph pe fr w ea cc k ↔ mPO G ph pe fr w ea (cc + pe) := by
  constructor
  · intro h c a b d j hj
    by_cases e : c < cc
    · exact h.1 c a e d j hj
    · have : c = cc := by rcases hpe with rfl | rfl | rfl <;> omega
      subst this
      exact h.2 j (by omega)
  · intro h
    exact ⟨fun c a b d j hj => h c a (by omega) d j hj, fun j hj => h cc h1 (by omega) h2 j (by omega)⟩
theorem mPO_end {G : Nat → Nat → Int} {ph pe fr w ea cc : Int} (hpe : pe = 1 ∨ pe = 2 ∨ pe = 4) (h2 : (cc - ph) % pe = 0) (h3 : 4 ≤ cc) (h4 : cc < 4 + pe) : mPO G ph pe fr w ea cc ↔ mPO G ph pe fr w ea 4 := by
  constructor
  · exact fun h c a b d j hj => h c a (by omega) d j hj
  · intro h c a b d j hj
    refine h c a ?_ d j hj
    rcases hpe with rfl | rfl | rfl <;> omega
def mFree (G : Nat → Nat → Int) (fr w ph pe ea : Int) : Prop := mPO G ph pe fr w ea 4
def mLim (ea : Int) : Int := if ea = 2 then 24 else 48
def mNone (G : Nat → Nat → Int) (w pe ea p f : Int) : Prop := ∀ p' f' : Int, 0 ≤ p' → p' < pe → 0 ≤ f' → f' + w ≤ mLim ea → (p' < p ∨ (p' = p ∧ f' < f)) → ¬ mFree G f' w p' pe ea
def mFirst (G : Nat → Nat → Int) (w pe ea r : Int) : Prop := (r = -1 ∧ mNone G w pe ea pe 0) ∨ ∃ p f : Int, r = 100 * p + f ∧ 0 ≤ p ∧ p < pe ∧ 0 ≤ f ∧ f + w ≤ mLim ea ∧ mFree G f w p pe ea ∧ mNone G w pe ea p f
theorem mNone_0 {G : Nat → Nat → Int} {w pe ea : Int} : mNone G w pe ea 0 0 := fun p' f' a _ b _ d => absurd d (by omega)
theorem mNone_f {G : Nat → Nat → Int} {w pe ea p f : Int} (h : mNone G w pe ea p f) (h2 : ¬ mFree G f w p pe ea) : mNone G w pe ea p (f + 1) := fun p' f' a b c d e => by
  by_cases q : p' = p ∧ f' = f
  · rw [q.1, q.2]; exact h2
  · exact h p' f' a b c d (by omega)
theorem mNone_p {G : Nat → Nat → Int} {w pe ea p f : Int} (h : mNone G w pe ea p f) (h2 : mLim ea < f + w) : mNone G w pe ea (p + 1) 0 := fun p' f' a b c d e => h p' f' a b c d (by omega)
/-- one place is the first -/
theorem mFirst_uniq {G : Nat → Nat → Int} {w pe ea r r' : Int} (h : mFirst G w pe ea r) (h' : mFirst G w pe ea r') : r = r' := by
  rcases h with ⟨h1, h2⟩ | ⟨p, f, h1, h2, h3, h4, h5, h6, h7⟩ <;> rcases h' with ⟨g1, g2⟩ | ⟨p', f', g1, g2, g3, g4, g5, g6, g7⟩
  · rw [h1, g1]
  · exact absurd g6 (h2 p' f' g2 g3 g4 g5 (by omega))
  · exact absurd h6 (g2 p f h2 h3 h4 h5 (by omega))
  · have a : ¬ (p < p' ∨ (p = p' ∧ f < f')) := fun z => g7 p f h2 h3 h4 h5 z h6
    have b : ¬ (p' < p ∨ (p' = p ∧ f' < f)) := fun z => h7 p' f' g2 g3 g4 g5 z g6
    omega
theorem mFirst_range {G : Nat → Nat → Int} {w pe ea r : Int} (hw : 1 ≤ w) (hpe : pe = 1 ∨ pe = 2 ∨ pe = 4) (h : mFirst G w pe ea r) : r = -1 ∨ (0 ≤ r ∧ r ≤ 347 ∧ 0 ≤ r / 100 ∧ r / 100 < pe ∧ 0 ≤ r % 100 ∧ r % 100 + w ≤ mLim ea ∧ mFree G (r % 100) w (r / 100) pe ea) := by
  rcases h with ⟨h1, h2⟩ | ⟨p, f, h1, h2, h3, h4, h5, h6, h7⟩
  · exact Or.inl h1
  · have hl : mLim ea ≤ 48 := by unfold mLim; split <;> omega
    have e1 : r / 100 = p := by omega
    have e2 : r % 100 = f := by omega
    rw [e1, e2]
    exact Or.inr ⟨by omega, by omega, h2, h3, h4, h5, h6⟩
abbrev mGood (w c p : Int) (t : Nat) : Prop := (0 ≤ c ∧ c ≤ 3) ∧ ((c = 0 ∧ 1 ≤ w) ∨ (c ≠ 0 ∧ 2 ≤ w)) ∧ w ≤ 12 ∧ (p = 1 ∨ (t = 0 ∧ (p = 2 ∨ p = 4)))
def mSpare (G : Nat → Nat → Int) : Nat → Int
  | 0 => 0
  | k + 1 => mSpare G k + (if mUser G ((k / 48 : Nat) : Int) ((k % 48 : Nat) : Int) (G 28 0).toNat = -1 then 1 else 0)
theorem mSpare_range (G : Nat → Nat → Int) (k : Nat) : 0 ≤ mSpare G k ∧ mSpare G k ≤ k := by
  induction k with
  | zero => exact ⟨Int.le_refl _, by simp [mSpare]⟩
  | succ k ih => simp only [mSpare]; split <;> omega
theorem gLo_range {cv w : Int} (h : 1 ≤ w) (h2 : w ≤ 12) : -2048 ≤ gLo cv w ∧ gLo cv w ≤ 0 := by
  have := gHf_range h h2
  unfold gLo
  (repeat' split) <;> omega
theorem gHi_range {cv w : Int} (h : 1 ≤ w) (h2 : w ≤ 12) : 0 ≤ gHi cv w ∧ gHi cv w ≤ 4095 := by
  have := gHf_range h h2
  unfold gHi
  (repeat' split) <;> omega
