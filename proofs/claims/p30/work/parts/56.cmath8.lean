/-! ===== the sender's frame over the ghost ===== -/
abbrev sAt (G : Nat → Nat → Int) (j : Nat) : Int := 16 + G 34 (j / 2) + 24 * ((j % 2 : Nat) : Int)
/-- the samples that are packed already -/
def sndK (G : Nat → Nat → Int) (c wd : Int) (q : Nat) (j : Nat) : Prop := (j : Int) < 2 * G 28 0 ∧ ((j % 2 : Nat) : Int) < G 32 (j / 2) ∧ c % G 31 (j / 2) = G 33 (j / 2) ∧ (sAt G j / 8 < wd ∨ (sAt G j / 8 = wd ∧ j < q))
def sCov (G : Nat → Nat → Int) (E : Nat → Int) (j b : Nat) : Prop := sAt G j ≤ (b : Int) ∧ (b : Int) < sAt G j + G 29 (j / 2) ∧ tb (E j) (G 29 (j / 2) - 1 - ((b : Int) - sAt G j)) = 1
def FrS (F : Int64) (G : Nat → Nat → Int) (c wd : Int) (q : Nat) (E : Nat → Int) : Prop := ∀ b : Nat, b < 64 → ((lnat F).testBit (63 - b) = true ↔ (b < 8 ∧ tb 184 (7 - (b : Int)) = 1) ∨ (8 ≤ b ∧ b < 16 ∧ tb c (15 - (b : Int)) = 1) ∨ ∃ j : Nat, sndK G c wd q j ∧ sCov G E j b)
theorem tb_nat {a k : Nat} : tb (a : Int) (k : Int) = 1 ↔ a.testBit k = true := by
  unfold tb
  rw [Nat.testBit_eq_decide_div_mod_eq, decide_eq_true_iff, Int.toNat_natCast]
  have : ((a : Int) / 2 ^ k) = ((a / 2 ^ k : Nat) : Int) := by rw [Int.natCast_ediv, Int.natCast_pow]; rfl
  rw [this]
  omega
theorem sndK_n {G : Nat → Nat → Int} {c wd : Int} {q : Nat} (h : ¬ sndC G c wd q) (j : Nat) : sndK G c wd (q + 1) j ↔ sndK G c wd q j := by
  unfold sndK
  constructor
  · rintro ⟨a, b, d, e⟩
    refine ⟨a, b, d, ?_⟩
    rcases e with e | ⟨e, f⟩
    · exact Or.inl e
    · by_cases g : j = q
      · subst g; exact absurd ⟨b, d, e⟩ h
      · exact Or.inr ⟨e, by omega⟩
  · rintro ⟨a, b, d, e⟩
    exact ⟨a, b, d, e.imp id (fun z => ⟨z.1, by omega⟩)⟩
theorem FrS_n {F : Int64} {G : Nat → Nat → Int} {c wd : Int} {q : Nat} (h : ¬ sndC G c wd q) (hF : FrS F G c wd q (mSnd G c wd q)) : FrS F G c wd (q + 1) (mSnd G c wd (q + 1)) := by
  have e : mSnd G c wd (q + 1) = mSnd G c wd q := funext fun j => (mSnd_0 h j).symm
  intro b hb
  rw [e, hF b hb]
  simp only [sndK_n h]
theorem FrS_y {F : Int64} {G : Nat → Nat → Int} {c wd en sh : Int} {q : Nat} (h : sndC G c wd q) (hq : (q : Int) < 2 * G 28 0) (hF : FrS F G c wd q (mSnd G c wd q)) (he : en = gEnc (G 30 (q / 2)) (G 29 (q / 2)) (G 35 (q / 2))) (he0 : 0 ≤ en) (he1 : en < 2 ^ (G 29 (q / 2)).toNat) (hw : 1 ≤ G 29 (q / 2)) (hw2 : G 29 (q / 2) ≤ 12) (hs : sh = 64 - sAt G q - G 29 (q / 2)) (ha : 16 ≤ sAt G q) (hs0 : 0 ≤ sh) : FrS (F ||| gshl (zL en) (zI sh)) G c wd (q + 1) (mSnd G c wd (q + 1)) := by
  obtain ⟨v, rfl⟩ : ∃ v : Nat, en = (v : Int) := ⟨en.toNat, by omega⟩
  have hv : v < 2 ^ (G 29 (q / 2)).toNat := by exact_mod_cast he1
  have hv2 : v < 4096 := Nat.lt_of_lt_of_le hv (by have := Nat.pow_le_pow_right (show 0 < 2 by decide) (show (G 29 (q / 2)).toNat ≤ 12 by omega); exact this)
  have hl : lnat (zL (v : Int)) = v := by
    have := ln_i (k := v) (by omega)
    rwa [zL_n2l (by omega)] at this
  have hE : ∀ j, j ≠ q → mSnd G c wd (q + 1) j = mSnd G c wd q j := by
    intro j hj
    unfold mSnd
    by_cases a : j < q ∧ sndC G c wd j
    · rw [if_pos a, if_pos ⟨by omega, a.2⟩]
    · rw [if_neg a, if_neg (fun z => a ⟨by omega, z.2⟩)]
  have hEq : mSnd G c wd (q + 1) q = (v : Int) := by
    unfold mSnd
    rw [if_pos ⟨by omega, h⟩, he]
  have hK : ∀ j, sndK G c wd (q + 1) j ↔ sndK G c wd q j ∨ j = q := by
    intro j
    unfold sndK
    constructor
    · rintro ⟨a, b, d, e⟩
      by_cases g : j = q
      · exact Or.inr g
      · exact Or.inl ⟨a, b, d, e.imp id (fun z => ⟨z.1, by omega⟩)⟩
    · rintro (⟨a, b, d, e⟩ | e)
      · exact ⟨a, b, d, e.imp id (fun z => ⟨z.1, by omega⟩)⟩
      · subst e
        exact ⟨hq, h.1, h.2.1, Or.inr ⟨h.2.2, by omega⟩⟩
  have hnq : ¬ sndK G c wd q q := by
    rintro ⟨_, _, _, e | e⟩
    · have := h.2.2; exact absurd e (by show ¬ (16 + G 34 (q / 2) + 24 * ((q % 2 : Nat) : Int)) / 8 < wd; omega)
    · omega
  intro b hb
  rw [ln_or, Nat.testBit_or, Bool.or_eq_true, hF b hb, zI_nat hs0, ln_shl _ (by omega), hl, Nat.testBit_mod_two_pow, Nat.testBit_mul_two_pow]
  have hnew : (decide (63 - b < 64) && (decide (63 - b ≥ sh.toNat) && v.testBit (63 - b - sh.toNat))) = true ↔ sCov G (mSnd G c wd (q + 1)) q b := by
    unfold sCov
    rw [hEq]
    simp only [Bool.and_eq_true, decide_eq_true_eq]
    constructor
    · rintro ⟨a1, a2, a3⟩
      have a4 : 63 - b - sh.toNat < (G 29 (q / 2)).toNat := by
        apply Classical.byContradiction
        intro z
        have := Nat.testBit_lt_two_pow (Nat.lt_of_lt_of_le hv (Nat.pow_le_pow_right (by decide) (Nat.le_of_not_lt z)))
        rw [this] at a3
        cases a3
      have a5 : G 29 (q / 2) - 1 - ((b : Int) - sAt G q) = ((63 - b - sh.toNat : Nat) : Int) := by omega
      refine ⟨by omega, by omega, ?_⟩
      rw [a5]
      exact tb_nat.mpr a3
    · rintro ⟨a1, a2, a3⟩
      have a5 : G 29 (q / 2) - 1 - ((b : Int) - sAt G q) = ((63 - b - sh.toNat : Nat) : Int) := by omega
      rw [a5] at a3
      exact ⟨by omega, by omega, tb_nat.mp a3⟩
  rw [hnew]
  constructor
  · rintro ((e | e | ⟨j, k1, k2⟩) | e)
    · exact Or.inl e
    · exact Or.inr (Or.inl e)
    · have hj : j ≠ q := fun z => hnq (z ▸ k1)
      refine Or.inr (Or.inr ⟨j, (hK j).mpr (Or.inl k1), ?_⟩)
      unfold sCov at k2 ⊢
      rw [hE j hj]
      exact k2
    · exact Or.inr (Or.inr ⟨q, (hK q).mpr (Or.inr rfl), e⟩)
  · rintro (e | e | ⟨j, k1, k2⟩)
    · exact Or.inl (Or.inl e)
    · exact Or.inl (Or.inr (Or.inl e))
    · by_cases hj : j = q
      · subst hj; exact Or.inr k2
      · refine Or.inl (Or.inr (Or.inr ⟨j, ((hK j).mp k1).resolve_right hj, ?_⟩))
        unfold sCov at k2 ⊢
        rw [← hE j hj]
        exact k2
