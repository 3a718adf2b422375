/-! ===== bits and the sender ===== -/
def tb (a s : Int) : Int := (a / 2 ^ s.toNat) % 2
theorem tb_01 (a s : Int) : tb a s = 0 ∨ tb a s = 1 := by unfold tb; omega
theorem z_shr {a s : Int} (h0 : 0 ≤ a) (h1 : a < 2147483648) (h2 : 0 ≤ s) (h3 : s < 32) : zI a >>> (zI s &&& 31) = zI (a / 2 ^ s.toNat) := by
  obtain ⟨b, rfl⟩ : ∃ b : Nat, a = b := ⟨a.toNat, by omega⟩
  obtain ⟨t, rfl⟩ : ∃ t : Nat, s = t := ⟨s.toNat, by omega⟩
  rw [zI_n, zI_n, pk_andN (k := 5) (by omega) (by decide), pk_shrN (n := b) (by omega) _ (t % 2 ^ 5)]
  · rw [Int.toNat_natCast, ← zI_n, Int.natCast_ediv, Int.natCast_pow, show t % 2 ^ 5 = t by omega]
    rfl
  · have h : ∀ t : Nat, t < 32 → ((nI (t % 2 ^ 5)).toBitVec.smod 32).toNat = t % 2 ^ 5 := by decide +kernel
    exact h t (by omega)
theorem z_and1 {a : Int} (h0 : 0 ≤ a) (h1 : a < 2147483648) : zI a &&& nI 1 = zI (a % 2) := by
  obtain ⟨b, rfl⟩ : ∃ b : Nat, a = b := ⟨a.toNat, by omega⟩
  rw [zI_n, pk_andN (k := 1) (by omega) (by decide), ← zI_n, Int.natCast_emod]
  rfl
theorem z_tb {a s : Int} (h0 : 0 ≤ a) (h1 : a < 2147483648) (h2 : 0 ≤ s) (h3 : s < 32) : (zI a >>> (zI s &&& 31)) &&& nI 1 = zI (tb a s) := by
  have hp : (0 : Int) < 2 ^ s.toNat := Int.pow_pos (by decide)
  have h4 := Int.ediv_nonneg h0 (Int.le_of_lt hp)
  have h5 := Int.ediv_le_self (2 ^ s.toNat) h0
  rw [z_shr h0 h1 h2 h3, z_and1 h4 (by omega)]
  rfl
theorem mUser_cov {G : Nat → Nat → Int} {c b : Int} {k u : Nat} (h : mUser G c b k = (u : Int)) : u < k ∧ mCov G c b u := by
  induction k with
  | zero => simp [mUser] at h
  | succ k ih =>
    simp only [mUser] at h
    by_cases q : mCov G c b k
    · rw [if_pos q] at h
      have : u = k := by omega
      subst this
      exact ⟨Nat.lt_succ_self _, q⟩
    · rw [if_neg q] at h
      obtain ⟨h1, h2⟩ := ih h
      exact ⟨by omega, h2⟩
abbrev sndC (G : Nat → Nat → Int) (c wd : Int) (j : Nat) : Prop := ((j % 2 : Nat) : Int) < G 32 (j / 2) ∧ c % G 31 (j / 2) = G 33 (j / 2) ∧ (16 + G 34 (j / 2) + 24 * ((j % 2 : Nat) : Int)) / 8 = wd
/-- what is kept of the samples, when the first q places were looked at -/
def mSnd (G : Nat → Nat → Int) (c wd : Int) (q : Nat) : Nat → Int := fun j => if j < q ∧ sndC G c wd j then gEnc (G 30 (j / 2)) (G 29 (j / 2)) (G 35 (j / 2)) else G 36 j
/-- a bit of a frame, of the counter c -/
def mBit (G : Nat → Nat → Int) (c b : Int) : Int :=
  if b < 8 then tb 184 (7 - b) else if b < 16 then tb c (15 - b) else
    if mUser G c (b - 16) (G 28 0).toNat = -1 then 0 else
      tb (G 36 (2 * (mUser G c (b - 16) (G 28 0).toNat).toNat + (if G 32 (mUser G c (b - 16) (G 28 0).toNat).toNat = 2 ∧ 24 ≤ b - 16 then 1 else 0)))
        (G 29 (mUser G c (b - 16) (G 28 0).toNat).toNat - 1 - (b - 16 - 24 * (if G 32 (mUser G c (b - 16) (G 28 0).toNat).toNat = 2 ∧ 24 ≤ b - 16 then 1 else 0) - G 34 (mUser G c (b - 16) (G 28 0).toNat).toNat))
theorem mBit_01 (G : Nat → Nat → Int) (c b : Int) : mBit G c b = 0 ∨ mBit G c b = 1 := by
  unfold mBit
  split
  · exact tb_01 _ _
  · split
    · exact tb_01 _ _
    · split
      · exact Or.inl rfl
      · exact tb_01 _ _
def mCtr (G : Nat → Nat → Int) : Int := G 28 9 / 8 % 256
def mWd (G : Nat → Nat → Int) : Int := G 28 9 % 8
/-- the samples are packed -/
def mSW1 (G : Nat → Nat → Int) : Nat → Nat → Int := gr G 36 (mSnd G (mCtr G) (mWd G) (2 * (G 28 0).toNat))
/-- q bits of the word are on the line -/
def mSW2 (G G1 : Nat → Nat → Int) (q : Nat) : Nat → Nat → Int := gu (gr G1 37 (fun j => if G 28 10 ≤ (j : Int) ∧ (j : Int) < G 28 10 + (q : Int) then mBit G1 (mCtr G) (8 * mWd G + ((j : Int) - G 28 10)) else G 37 j)) 28 10 (G 28 10 + (q : Int))
def mSW (G : Nat → Nat → Int) : Nat → Nat → Int := gu (mSW2 G (mSW1 G) 8) 28 9 (G 28 9 + 1)
