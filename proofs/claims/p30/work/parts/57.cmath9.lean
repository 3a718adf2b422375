/-- no bit has two points -/
def mDisj (G : Nat → Nat → Int) : Prop := ∀ (c b : Int) (i j : Nat), (i : Int) < G 28 0 → (j : Int) < G 28 0 → mCov G c b i → mCov G c b j → i = j
theorem mUser_some {G : Nat → Nat → Int} {c b : Int} {k m : Nat} (h : mCov G c b k) (hk : k < m) : mUser G c b m ≠ -1 := by
  induction m with
  | zero => omega
  | succ m ih =>
    simp only [mUser]
    by_cases q : mCov G c b m
    · rw [if_pos q]; omega
    · rw [if_neg q]
      exact ih (by by_cases e : k = m; · subst e; exact absurd h q
                   · omega)
theorem FrS_0 {G : Nat → Nat → Int} {c : Int} {E : Nat → Int} (hT : TsOk G) (h0 : 0 ≤ c) (h1 : c < 256) : FrS (gshl (zL ((47104 + c.toNat : Nat) : Int)) (nI 48)) G c 0 0 E := by
  obtain ⟨v, rfl⟩ : ∃ v : Nat, c = (v : Int) := ⟨c.toNat, by omega⟩
  have hl : lnat (zL ((47104 + v : Nat) : Int)) = 47104 + v := by
    have := ln_i (k := 47104 + v) (by omega)
    rwa [zL_n2l (by omega)] at this
  have hno : ∀ j, ¬ sndK G (v : Int) 0 0 j := by
    rintro j ⟨a, b, d, e⟩
    have := hT.2.2 (j / 2) (by omega)
    have hsa : sAt G j = 16 + G 34 (j / 2) + 24 * ((j % 2 : Nat) : Int) := rfl
    rcases e with e | e
    · omega
    · exact absurd e.2 (Nat.not_lt_zero _)
  intro b hb
  rw [Int.toNat_natCast, ln_shl _ (by decide), hl, Nat.testBit_mod_two_pow, Nat.testBit_mul_two_pow]
  have hsp : ∀ i, (47104 + v).testBit i = if i < 8 then v.testBit i else (184 : Nat).testBit (i - 8) := by
    intro i
    rw [show 47104 + v = 2 ^ 8 * 184 + v from by omega, Nat.testBit_two_pow_mul_add 184 (show v < 2 ^ 8 by omega)]
  rw [hsp]
  simp only [Bool.and_eq_true, decide_eq_true_eq]
  constructor
  · rintro ⟨a1, a2, a3⟩
    by_cases q : b < 8
    · rw [if_neg (by omega)] at a3
      refine Or.inl ⟨q, ?_⟩
      rw [show (7 : Int) - (b : Int) = ((63 - b - 48 - 8 : Nat) : Int) from by omega]
      exact (tb_nat (a := 184)).mpr a3
    · rw [if_pos (by omega)] at a3
      refine Or.inr (Or.inl ⟨by omega, by omega, ?_⟩)
      rw [show (15 : Int) - (b : Int) = ((63 - b - 48 : Nat) : Int) from by omega]
      exact tb_nat.mpr a3
  · rintro (⟨q, e⟩ | ⟨q, q2, e⟩ | ⟨j, k1, _⟩)
    · refine ⟨by omega, by omega, ?_⟩
      rw [if_neg (by omega)]
      rw [show (7 : Int) - (b : Int) = ((63 - b - 48 - 8 : Nat) : Int) from by omega] at e
      exact (tb_nat (a := 184)).mp e
    · refine ⟨by omega, by omega, ?_⟩
      rw [if_pos (by omega)]
      rw [show (15 : Int) - (b : Int) = ((63 - b - 48 : Nat) : Int) from by omega] at e
      exact tb_nat.mp e
    · exact absurd k1 (hno j)
/-- the next word of the frame -/
theorem FrS_next {F : Int64} {G : Nat → Nat → Int} {c wd : Int} {q : Nat} {E : Nat → Int} (hq : (q : Int) = 2 * G 28 0) (h : FrS F G c wd q E) : FrS F G c (wd + 1) 0 E := by
  have e : ∀ j, sndK G c (wd + 1) 0 j ↔ sndK G c wd q j := by
    intro j
    unfold sndK
    constructor
    · rintro ⟨a, b, d, e | e⟩
      · refine ⟨a, b, d, ?_⟩
        by_cases g : sAt G j / 8 < wd
        · exact Or.inl g
        · exact Or.inr ⟨by omega, by omega⟩
      · exact absurd e.2 (Nat.not_lt_zero _)
    · rintro ⟨a, b, d, e | e⟩
      · exact ⟨a, b, d, Or.inl (by omega)⟩
      · exact ⟨a, b, d, Or.inl (by omega)⟩
  intro b hb
  rw [h b hb]
  simp only [e]
theorem FrS_bit {F : Int64} {G : Nat → Nat → Int} {c wd : Int} (hT : TsOk G) (hD : mDisj G) (hF : FrS F G c wd (2 * (G 28 0).toNat) (G 36)) {b : Nat} (hb : b < 64) (hw : (b : Int) / 8 = wd) : (lnat F).testBit (63 - b) = true ↔ mBit G c (b : Int) = 1 := by
  have hat : ∀ j, sndK G c wd (2 * (G 28 0).toNat) j → TOk G (j / 2) ∧ sAt G j = 16 + G 34 (j / 2) + 24 * ((j % 2 : Nat) : Int) := fun j z => ⟨hT.2.2 (j / 2) (by have := z.1; omega), rfl⟩
  rw [hF b hb]
  unfold mBit
  by_cases b8 : b < 8
  · rw [if_pos (by omega)]
    constructor
    · rintro (e | e | ⟨j, k1, k2⟩)
      · exact e.2
      · omega
      · have := hat j k1; have := k2.1; omega
    · intro e; exact Or.inl ⟨b8, e⟩
  · rw [if_neg (by omega)]
    by_cases b16 : b < 16
    · rw [if_pos (by omega)]
      constructor
      · rintro (e | e | ⟨j, k1, k2⟩)
        · omega
        · exact e.2.2
        · have := hat j k1; have := k2.1; omega
      · intro e; exact Or.inr (Or.inl ⟨by omega, b16, e⟩)
    · rw [if_neg (by omega)]
      have cov : ∀ j, sndK G c wd (2 * (G 28 0).toNat) j → sCov G (G 36) j b → mCov G c ((b : Int) - 16) (j / 2) := by
        intro j k1 k2
        have hat8 := hat j k1
        obtain ⟨a1, a2, a3, _⟩ := k1
        obtain ⟨c1, c2, _⟩ := k2
        have hj : j % 2 = 0 ∨ j % 2 = 1 := by omega
        refine ⟨a3, ?_⟩
        rcases hj with hj | hj
        · left; omega
        · right
          have := hT.2.2 (j / 2) (by omega)
          omega
      by_cases u : mUser G c ((b : Int) - 16) (G 28 0).toNat = -1
      · rw [if_pos u]
        constructor
        · rintro (e | e | ⟨j, k1, k2⟩)
          · omega
          · omega
          · exact absurd u (mUser_some (cov j k1 k2) (by have := k1.1; omega))
        · intro e; exact absurd e (by decide)
      · rw [if_neg u]
        have ur := mUser_range G c ((b : Int) - 16) (G 28 0).toNat
        obtain ⟨k, hk⟩ : ∃ k : Nat, mUser G c ((b : Int) - 16) (G 28 0).toNat = (k : Int) := ⟨(mUser G c ((b : Int) - 16) (G 28 0).toNat).toNat, by omega⟩
        rw [hk, Int.toNat_natCast]
        have hkc := (mUser_cov hk).2
        have hkn : k < (G 28 0).toNat := by omega
        have hkT := hT.2.2 k (by omega)
        have sj : ∀ j, j / 2 = k → sndK G c wd (2 * (G 28 0).toNat) j → sCov G (G 36) j b → j = 2 * k + (if G 32 k = 2 ∧ 24 ≤ (b : Int) - 16 then 1 else 0) ∧ ((if G 32 k = 2 ∧ 24 ≤ (b : Int) - 16 then 1 else 0 : Int)) = ((j % 2 : Nat) : Int) := by
          intro j hj k1 k2
          obtain ⟨a1, a2, a3, _⟩ := k1
          obtain ⟨c1, c2, _⟩ := k2
          rw [hj] at a2 c2
          have c1' : 16 + G 34 k + 24 * ((j % 2 : Nat) : Int) ≤ (b : Int) := by have := c1; unfold sAt at this; rw [hj] at this; exact this
          have c2' : (b : Int) < 16 + G 34 k + 24 * ((j % 2 : Nat) : Int) + G 29 k := by have := c2; unfold sAt at this; rw [hj] at this; exact this
          by_cases s : G 32 k = 2 ∧ 24 ≤ (b : Int) - 16
          · rw [if_pos s, if_pos s]; omega
          · rw [if_neg s, if_neg s]; omega
        constructor
        · rintro (e | e | ⟨j, k1, k2⟩)
          · omega
          · omega
          · have hj : j / 2 = k := hD c ((b : Int) - 16) (j / 2) k (by have := k1.1; omega) (by omega) (cov j k1 k2) hkc
            obtain ⟨s1, s2⟩ := sj j hj k1 k2
            rw [s2, ← s1]
            have e9 := k2.2.2
            unfold sAt at e9
            rw [hj] at e9
            rw [← e9]
            congr 1
            omega
        · intro e
          right; right
          refine ⟨2 * k + (if G 32 k = 2 ∧ 24 ≤ (b : Int) - 16 then 1 else 0), ?_, ?_⟩
          · unfold sndK sAt
            obtain ⟨m1, m2⟩ := hkc
            by_cases s : G 32 k = 2 ∧ 24 ≤ (b : Int) - 16
            · rw [if_pos s, show (2 * k + 1) / 2 = k from by omega, show (2 * k + 1) % 2 = 1 from by omega]
              exact ⟨by omega, by omega, m1, by omega⟩
            · rw [if_neg s, show (2 * k + 0) / 2 = k from by omega, show (2 * k + 0) % 2 = 0 from by omega]
              exact ⟨by omega, by omega, m1, by omega⟩
          · unfold sCov sAt
            obtain ⟨m1, m2⟩ := hkc
            by_cases s : G 32 k = 2 ∧ 24 ≤ (b : Int) - 16
            · rw [if_pos s, if_pos s] at e
              rw [if_pos s, show (2 * k + 1) / 2 = k from by omega, show (2 * k + 1) % 2 = 1 from by omega]
              refine ⟨by omega, by omega, ?_⟩
              rw [← e]
              congr 1
              omega
            · rw [if_neg s, if_neg s] at e
              rw [if_neg s, show (2 * k + 0) / 2 = k from by omega, show (2 * k + 0) % 2 = 0 from by omega]
              refine ⟨by omega, by omega, ?_⟩
              rw [← e]
              congr 1
              omega
