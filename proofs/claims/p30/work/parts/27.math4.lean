/-! ===== the sender's loops ===== -/
theorem mSnd_0 {G : Nat → Nat → Int} {c wd : Int} {q : Nat} (h : ¬ sndC G c wd q) (j : Nat) : mSnd G c wd q j = mSnd G c wd (q + 1) j := by
  unfold mSnd
  by_cases e : j = q
  · subst e
    rw [if_neg (fun z => h z.2), if_neg (fun z => h z.2)]
  · by_cases e2 : j < q
    · by_cases e3 : sndC G c wd j
      · rw [if_pos ⟨e2, e3⟩, if_pos ⟨by omega, e3⟩]
      · rw [if_neg (fun z => e3 z.2), if_neg (fun z => e3 z.2)]
    · rw [if_neg (fun z => e2 z.1), if_neg (fun z => absurd z.1 (by omega))]
theorem mSnd_1 {G : Nat → Nat → Int} {c wd : Int} {q : Nat} (h : sndC G c wd q) (j : Nat) : (if j = q then gEnc (G 30 (q / 2)) (G 29 (q / 2)) (G 35 (q / 2)) else mSnd G c wd q j) = mSnd G c wd (q + 1) j := by
  unfold mSnd
  by_cases e : j = q
  · subst e
    rw [if_pos rfl, if_pos ⟨Nat.lt_succ_self _, h⟩]
  · rw [if_neg e]
    by_cases e3 : j < q ∧ sndC G c wd j
    · rw [if_pos e3, if_pos ⟨by omega, e3.2⟩]
    · rw [if_neg e3, if_neg (fun z => e3 ⟨by omega, z.2⟩)]
theorem mSnd_z (G : Nat → Nat → Int) (c wd : Int) (j : Nat) : mSnd G c wd 0 j = G 36 j := by
  unfold mSnd
  rw [if_neg (fun z => absurd z.1 (Nat.not_lt_zero _))]
/-- a row of the check's changes -/
theorem MRep.row {A : Nat → Nat → Int32} {G : Nat → Nat → Int} (h : MRep A G) {k : Nat} {f : Nat → Int} (e : ∀ j, G k j = f j) : MRep A (gr G k f) := h.to fun k' j _ _ => by
  rw [gr_at]
  by_cases q : k' = k
  · subst q; rw [if_pos rfl, e]
  · rw [if_neg q]
theorem MRep.row2 {A : Nat → Nat → Int32} {G : Nat → Nat → Int} {k : Nat} {f g : Nat → Int} (h : MRep A (gr G k f)) (e : ∀ j, f j = g j) : MRep A (gr G k g) := by
  have : f = g := funext e
  rw [← this]; exact h
theorem MRep.row3 {A : Nat → Nat → Int32} {G : Nat → Nat → Int} {k i : Nat} {f g : Nat → Int} {x : Int} (h : MRep A (gr G k f)) (e : ∀ j, (if j = i then x else f j) = g j) : MRep (gu A k i (zI x)) (gr G k g) := (h.up k i x).to fun k' j _ _ => by
  rw [gu_at, gr_at, gr_at]
  by_cases q : k' = k
  · subst q
    rw [if_pos rfl, if_pos rfl, ← e j]
    by_cases q2 : j = i
    · rw [if_pos ⟨rfl, q2⟩, if_pos q2]
    · rw [if_neg (fun z => q2 z.2), if_neg q2]
  · rw [if_neg (fun z => q z.1), if_neg q, if_neg q]
theorem mSW2_0 (G : Nat → Nat → Int) (k j : Nat) : mSW1 G k j = mSW2 G (mSW1 G) 0 k j := by
  have h10 : mSW1 G 28 10 = G 28 10 := rfl
  unfold mSW2
  rw [gu_at, gr_at]
  by_cases q : k = 28 ∧ j = 10
  · rw [if_pos q, q.1, q.2, h10]; omega
  · rw [if_neg q]
    by_cases q2 : k = 37
    · subst q2
      rw [if_pos rfl, if_neg (by omega)]
      rfl
    · rw [if_neg q2]
theorem mSW2_s {A : Nat → Nat → Int32} {G : Nat → Nat → Int} {q : Nat} {x : Int} {b : Int} (h : MRep A (mSW2 G (mSW1 G) q)) (h0 : 0 ≤ G 28 10) (hb : b = 8 * mWd G + (q : Int)) (hx : x = mBit (mSW1 G) (mCtr G) b) : MRep (gu (gu A 37 (G 28 10 + (q : Int)).toNat (zI x)) 28 10 (zI (G 28 10 + (q : Int) + 1))) (mSW2 G (mSW1 G) (q + 1)) := by
  refine ((h.up 37 (G 28 10 + (q : Int)).toNat x).up 28 10 (G 28 10 + (q : Int) + 1)).to fun k j _ _ => ?_
  simp only [mSW2, gu_at, gr_at]
  by_cases q1 : k = 28 ∧ j = 10
  · rw [if_pos q1, if_pos q1]; omega
  · rw [if_neg q1, if_neg q1, if_neg q1]
    by_cases q2 : k = 37
    · subst q2
      simp only [true_and, ↓reduceIte]
      by_cases q3 : j = (G 28 10 + (q : Int)).toNat
      · rw [if_pos q3, if_pos ⟨by omega, by omega⟩, hx, hb]
        congr 1
        omega
      · rw [if_neg q3]
        by_cases q4 : G 28 10 ≤ (j : Int) ∧ (j : Int) < G 28 10 + (q : Int)
        · rw [if_pos q4, if_pos ⟨q4.1, by omega⟩]
        · rw [if_neg q4, if_neg (fun z => q4 ⟨z.1, by omega⟩)]
    · rw [if_neg (fun z => q2 z.1), if_neg q2, if_neg q2]
theorem gEnc_range {cv w v : Int} (h : 1 ≤ w) (h2 : w ≤ 12) (hc : 0 ≤ cv ∧ cv ≤ 3) (hv : gLo cv w ≤ v ∧ v ≤ gHi cv w) : 0 ≤ gEnc cv w v ∧ gEnc cv w v < 2 * gHf w := by
  have := gHf_range h h2
  revert hv
  unfold gEnc gLo gHi
  (repeat' split) <;> omega
abbrev mSndOk (G : Nat → Nat → Int) : Prop := ∀ j, 0 ≤ G 36 j ∧ G 36 j < 4096
abbrev mPres (G : Nat → Nat → Int) : Prop := ∀ i : Nat, (i : Int) < G 28 0 → gLo (G 30 i) (G 29 i) ≤ G 35 i ∧ G 35 i ≤ gHi (G 30 i) (G 29 i)
theorem mSnd_range {G : Nat → Nat → Int} (hT : TsOk G) (hs : mSndOk G) (hp : mPres G) (c wd : Int) {q : Nat} (hq : (q : Int) ≤ 2 * G 28 0) (j : Nat) : 0 ≤ mSnd G c wd q j ∧ mSnd G c wd q j < 4096 := by
  unfold mSnd
  split
  · rename_i h
    have ht := hT.2.2 (j / 2) (by omega)
    have h1 := gEnc_range (cv := G 30 (j / 2)) (by omega) (by omega) (by omega) (hp (j / 2) (by omega))
    have h2 := gHf_range (w := G 29 (j / 2)) (by omega) (by omega)
    omega
  · exact hs j
theorem MRep.st36 {A : Nat → Nat → Int32} {G : Nat → Nat → Int} {f : Nat → Int} (h : MRep A (gr G 36 f)) : MSt A G := h.st.to rfl (fun k j a b => by rw [gr_at, if_neg (by omega)])
theorem MRep.stSW {A : Nat → Nat → Int32} {G : Nat → Nat → Int} {q : Nat} (h : MRep A (mSW2 G (mSW1 G) q)) : MSt A G := h.st.to rfl (fun k j a b => by
  simp only [mSW2, mSW1, gu_at, gr_at]
  rw [if_neg (by omega), if_neg (by omega), if_neg (by omega)])
theorem mUser_36 (G : Nat → Nat → Int) (f : Nat → Int) (c b : Int) (k : Nat) : mUser (gr G 36 f) c b k = mUser G c b k := by
  induction k with
  | zero => rfl
  | succ k ih => simp only [mUser, ih]; rfl
theorem mBit_n {G : Nat → Nat → Int} {c b u v : Int} (hv : (b < 8 → v = tb 184 (7 - b)) ∧ (8 ≤ b → b < 16 → v = tb c (15 - b)) ∧ (16 ≤ b → v = 0)) (hu : (b < 16 ∧ u = -1) ∨ (16 ≤ b ∧ u = mUser G c (b - 16) (G 28 0).toNat)) (h1 : u = -1) : v = mBit (mSW1 G) c b := by
  unfold mBit
  by_cases h8 : b < 8
  · rw [if_pos h8]; exact hv.1 h8
  · rw [if_neg h8]
    by_cases h16 : b < 16
    · rw [if_pos h16]; exact hv.2.1 (by omega) h16
    · rw [if_neg h16]
      have h2 := (hu.resolve_left (fun z => h16 z.1)).2
      have h3 : mUser (mSW1 G) c (b - 16) (mSW1 G 28 0).toNat = -1 := (mUser_36 G _ c (b - 16) _).trans (h2.symm.trans h1)
      rw [if_pos h3]
      exact hv.2.2 (by omega)
theorem mBit_u {G : Nat → Nat → Int} {c b : Int} {j g : Nat} (hb : 16 ≤ b) (hu : mUser G c (b - 16) (G 28 0).toNat = (j : Int)) (hg : g = if G 32 j = 2 ∧ 24 ≤ b - 16 then 1 else 0) : tb (mSW1 G 36 (2 * j + g)) (G 29 j - 1 - (b - 16 - ((24 * g : Nat) : Int) - G 34 j)) = mBit (mSW1 G) c b := by
  have h3 : mUser (mSW1 G) c (b - 16) (mSW1 G 28 0).toNat = (j : Int) := (mUser_36 G _ c (b - 16) _).trans hu
  have h32 : mSW1 G 32 j = G 32 j := rfl
  have h29 : mSW1 G 29 j = G 29 j := rfl
  have h34 : mSW1 G 34 j = G 34 j := rfl
  unfold mBit
  rw [if_neg (by omega), if_neg (by omega), h3, if_neg (by omega), Int.toNat_natCast, h32, h29, h34]
  by_cases q : G 32 j = 2 ∧ 24 ≤ b - 16
  · rw [if_pos q] at hg
    rw [if_pos q, if_pos q, hg]
    rfl
  · rw [if_neg q] at hg
    rw [if_neg q, if_neg q, hg]
    rfl
