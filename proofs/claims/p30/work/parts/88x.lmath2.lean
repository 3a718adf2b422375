/-! ===== what the receiver keeps: the first frame, the samples that are due ===== -/
def mFst (G : Nat → Nat → Int) : Int := G 28 20 - G 28 21 - G 28 22 + 1
def mDue (p ph e f : Int) : Nat → Int
  | 0 => 0
  | q + 1 => mDue p ph e f q + (if (f + (q : Int)) % p = ph then e else 0)
def mTmI (G : Nat → Nat → Int) (i : Nat) : Prop := gLo (G 30 i) (G 29 i) ≤ G 39 i ∧ G 39 i ≤ gHi (G 30 i) (G 29 i) ∧ ∃ f : Int, mFst G ≤ f ∧ f ≤ G 28 20 ∧ f % G 31 i = G 33 i ∧ G 40 i = 64 * f + (16 + G 34 i + 24 * (G 32 i - 1))
def mRI (G : Nat → Nat → Int) : Prop := (G 28 21 = 0 → G 28 22 = 0 ∧ G 28 23 = 0) ∧ (G 28 21 ≠ 0 → (0 ≤ mFst G ∧ mFst G ≤ 255) ∧ G 28 19 = G 28 20 % 256 ∧ mFst G ≤ G 28 20) ∧ ∀ i : Nat, (i : Int) < G 28 0 → (G 28 21 ≠ 0 → G 41 i + G 42 i = mDue (G 31 i) (G 33 i) (G 32 i) (mFst G) (G 28 20 - mFst G + 1).toNat) ∧ (G 41 i ≠ 0 → mTmI G i)
theorem mRI.to {G G' : Nat → Nat → Int} (h : mRI G) (h0 : G' 28 0 = G 28 0) (hs : ∀ j, 19 ≤ j → j ≤ 23 → G' 28 j = G 28 j) (hp : ∀ k j, 29 ≤ k → k ≤ 34 → G' k j = G k j) (h39 : ∀ k j, 39 ≤ k → k ≤ 42 → G' k j = G k j) : mRI G' ∧ mFst G' = mFst G := by
  have e19 := hs 19 (by omega) (by omega)
  have e20 := hs 20 (by omega) (by omega)
  have e21 := hs 21 (by omega) (by omega)
  have e22 := hs 22 (by omega) (by omega)
  have e23 := hs 23 (by omega) (by omega)
  have ef : mFst G' = mFst G := by unfold mFst; rw [e20, e21, e22]
  refine ⟨?_, ef⟩
  unfold mRI mTmI at *
  rw [e19, e20, e21, e22, e23, h0, ef]
  refine ⟨h.1, h.2.1, fun i hi => ?_⟩
  rw [hp 29 i (by omega) (by omega), hp 30 i (by omega) (by omega), hp 31 i (by omega) (by omega), hp 32 i (by omega) (by omega), hp 33 i (by omega) (by omega), hp 34 i (by omega) (by omega), h39 39 i (by omega) (by omega), h39 40 i (by omega) (by omega), h39 41 i (by omega) (by omega), h39 42 i (by omega) (by omega)]
  exact h.2.2 i hi
theorem mMi_due {G : Nat → Nat → Int} {i : Nat} {N f : Int} {m : Nat} (hp : G 31 i = 1 ∨ G 31 i = 2 ∨ G 31 i = 4) (h19 : G 28 19 = N % 256) (hm : f + (m : Int) = N + 1) (q : Nat) : mMi G i q = G 42 i + mDue (G 31 i) (G 33 i) (G 32 i) f (m + q) - mDue (G 31 i) (G 33 i) (G 32 i) f m := by
  induction q with
  | zero => show G 42 i = _; rw [Nat.add_zero]; omega
  | succ q ih =>
    show mMi G i q + (if (G 28 19 + ((q + 1 : Nat) : Int)) % 256 % G 31 i = G 33 i then G 32 i else 0) = G 42 i + (mDue (G 31 i) (G 33 i) (G 32 i) f (m + q) + (if (f + ((m + q : Nat) : Int)) % G 31 i = G 33 i then G 32 i else 0)) - mDue (G 31 i) (G 33 i) (G 32 i) f m
    have e : (G 28 19 + ((q + 1 : Nat) : Int)) % 256 % G 31 i = (f + ((m + q : Nat) : Int)) % G 31 i := by
      rw [h19]
      rcases hp with h | h | h <;> rw [h] <;> omega
    rw [ih, e]
    omega
theorem gDec_range {cv w b : Int} (hcv : 0 ≤ cv ∧ cv ≤ 3) (h : 1 ≤ w) (h2 : w ≤ 12) (hb : 0 ≤ b ∧ b < 2 * gHf w) : gLo cv w ≤ gDec cv w b ∧ gDec cv w b ≤ gHi cv w := by
  have hh := gHf_range h h2
  unfold gLo gHi gDec
  generalize gHf w = s at *
  by_cases h1 : cv = 1
  · subst h1
    by_cases hs : s ≤ b
    · simp [hs]; omega
    · simp [hs]; omega
  · by_cases h3 : cv = 2
    · subst h3
      by_cases hs : s ≤ b
      · simp [hs]; omega
      · simp [hs]; omega
    · by_cases h0 : cv = 0
      · subst h0
        simp; omega
      · by_cases h4 : cv = 3
        · subst h4
          simp; omega
        · omega
theorem mVal_range {G : Nat → Nat → Int} (hp : mPast G) {i : Nat} (hT : TOk G i) (e : Int) : gLo (G 30 i) (G 29 i) ≤ mVal G i e ∧ mVal G i e ≤ gHi (G 30 i) (G 29 i) := by
  refine gDec_range (by omega) (by omega) (by omega) ?_
  have := mBits_range hp (G 28 15 + mAt G i e) (G 29 i).toNat
  rw [← gHf_pow (by omega) (by omega)] at this
  exact this
theorem mDec1_sc (G : Nat → Nat → Int) {j : Nat} (h : j < 19) : mDec1 G 28 j = G 28 j := by
  unfold mDec1 mMissI
  simp only [gu_at, gr_at]
  simp [show ¬ j = 21 from by omega, show ¬ j = 19 from by omega, show ¬ j = 20 from by omega, show ¬ j = 22 from by omega]
theorem mDec1_20 (G : Nat → Nat → Int) : mDec1 G 28 20 = mNum G := by
  unfold mDec1
  simp [gu_at]
theorem mDecG_39 (G : Nat → Nat → Int) (i : Nat) : mDecG G 39 i = if i < (G 28 0).toNat ∧ mK G % G 31 i = G 33 i then mVal (mDec1 G) i (G 32 i - 1) else G 39 i := by
  unfold mDecG mGive
  rw [gr_ne _ _ (by decide), gr_ne _ _ (by decide), gr_self]
  simp only [mDec1_k G i (show 31 ≠ 28 by decide) (by decide), mDec1_k G i (show 33 ≠ 28 by decide) (by decide), mDec1_k G i (show 32 ≠ 28 by decide) (by decide), mDec1_k G i (show 39 ≠ 28 by decide) (by decide)]
  by_cases h : i < (G 28 0).toNat ∧ mK G % G 31 i = G 33 i
  · rw [if_pos h, if_pos h]
  · rw [if_neg h, if_neg h, if_neg (by omega)]
theorem mDecG_40 (G : Nat → Nat → Int) (i : Nat) : mDecG G 40 i = if i < (G 28 0).toNat ∧ mK G % G 31 i = G 33 i then 64 * mNum G + mAt G i (G 32 i - 1) else G 40 i := by
  unfold mDecG mGive
  rw [gr_ne _ _ (by decide), gr_self]
  simp only [mDec1_k G i (show 31 ≠ 28 by decide) (by decide), mDec1_k G i (show 33 ≠ 28 by decide) (by decide), mDec1_k G i (show 32 ≠ 28 by decide) (by decide), mDec1_k G i (show 40 ≠ 28 by decide) (by decide), mDec1_20, mAt, mDec1_k G i (show 34 ≠ 28 by decide) (by decide)]
  by_cases h : i < (G 28 0).toNat ∧ mK G % G 31 i = G 33 i
  · rw [if_pos h, if_pos h]
  · rw [if_neg h, if_neg h, if_neg (by omega)]
theorem mDecG_v {G : Nat → Nat → Int} (i : Nat) (e : Int) : mVal (mDec1 G) i e = mVal G i e := by
  unfold mVal mAt
  rw [mDec1_k G i (show 30 ≠ 28 by decide) (by decide), mDec1_k G i (show 29 ≠ 28 by decide) (by decide), mDec1_k G i (show 34 ≠ 28 by decide) (by decide), mDec1_sc G (by decide), mBits_38 (fun j => mDec1_k G j (by decide) (by decide))]
/-- a frame is decoded -/
theorem mRI_decT {G : Nat → Nat → Int} (h : mRI G) (hok : mRcvOk G) : mRI (mDecT G) ∧ mDecT G 28 21 ≠ 0 ∧ (G 28 21 ≠ 0 → mFst (mDecT G) = mFst G) := by
  obtain ⟨hT, hpa, hta, hst, hnr, hsa⟩ := hok
  obtain ⟨n1, n2, n3, n4, n5, n6, n7, n8⟩ := hnr
  by_cases hr : mRep1 G
  · unfold mDecT
    rw [if_pos hr]
    have h21 : G 28 21 ≠ 0 := fun z => hr.1 (n6.mpr z)
    have eg : ∀ k j, ¬ (k = 28 ∧ j = 23) → gu G 28 23 (G 28 23 + 1) k j = G k j := fun k j z => by rw [gu_at, if_neg z]
    have ef : mFst (gu G 28 23 (G 28 23 + 1)) = mFst G := by
      unfold mFst; rw [eg _ _ (by omega), eg _ _ (by omega), eg _ _ (by omega)]
    refine ⟨⟨fun z => absurd (by rw [eg _ _ (by omega)] at z; exact z) h21, fun _ => ?_, fun i hi => ?_⟩, by rw [eg _ _ (by omega)]; exact h21, fun _ => ef⟩
    · rw [ef, eg _ _ (by omega), eg _ _ (by omega)]
      exact h.2.1 h21
    · rw [eg _ _ (by omega)] at hi
      unfold mTmI
      rw [ef]
      simp only [eg 28 21 (by omega), eg 28 20 (by omega), eg 29 i (by omega), eg 30 i (by omega), eg 31 i (by omega), eg 32 i (by omega), eg 33 i (by omega), eg 34 i (by omega), eg 39 i (by omega), eg 40 i (by omega), eg 41 i (by omega), eg 42 i (by omega)]
      exact h.2.2 i hi
  · unfold mDecT
    rw [if_neg hr]
    have hk := mK_range hpa
    have ek : ∀ k j, 29 ≤ k → k ≤ 34 → mDecG G k j = G k j := fun k j a b => mDecG_k G (by omega) (by omega)
    have e0 : mDecG G 28 0 = G 28 0 := mDecG_k G (by omega) (by omega)
    have e20 := mDecG_20 G
    have e21 := mDecG_21 G
    have e22 := mDecG_22 G
    have e23 : mDecG G 28 23 = G 28 23 := mDecG_k G (by omega) (by omega)
    have e19 := mDecG_19 G
    -- the number, the gap, the first frame
    have key : (G 28 21 = 0 ∧ mNum G = mK G ∧ mFar G = 0) ∨ (G 28 21 ≠ 0 ∧ mNum G = G 28 20 + mFar G ∧ 1 ≤ mFar G ∧ mFar G < 256 ∧ mK G = (G 28 20 + mFar G) % 256) := by
      by_cases h21 : G 28 21 = 0
      · have h19 := n6.mpr h21
        exact Or.inl ⟨h21, if_pos h19, if_pos h19⟩
      · have h19 : G 28 19 ≠ -1 := fun z => h21 (n6.mp z)
        have hf : mFar G = (mK G - G 28 19 + 256) % 256 := if_neg h19
        have hf0 : mFar G ≠ 0 := fun z => hr ⟨h19, z⟩
        have hc := (h.2.1 h21).2.1
        exact Or.inr ⟨h21, if_neg h19, by omega, by omega, by omega⟩
    have ef : mFst (mDecG G) = if G 28 21 = 0 then mK G else mFst G := by
      unfold mFst
      rw [e20, e21, e22]
      rcases key with ⟨a, b, c⟩ | ⟨a, b, c, d, e⟩
      · rw [if_pos a, b, c, a, (h.1 a).1]; omega
      · rw [if_neg a, b]; omega
    refine ⟨⟨fun z => ?_, fun _ => ?_, fun i hi => ?_⟩, by rw [e21]; omega, fun z => by rw [ef, if_neg z]⟩
    · rw [e21] at z; omega
    · rw [e20, e19, ef]
      rcases key with ⟨a, b, c⟩ | ⟨a, b, c, d, e⟩
      · rw [if_pos a, b]; omega
      · rw [if_neg a, b]
        have := h.2.1 a
        omega
    · rw [e0] at hi
      have hTi := hT.2.2 i hi
      have hpp := hTi.2.2.2.2.2.1
      have hin : i < (G 28 0).toNat := by omega
      have e41 := mDecG_41 G i
      have e42 := mDecG_42 G i
      rw [if_pos hi] at e42
      refine ⟨fun _ => ?_, fun z => ?_⟩
      · rw [ek 31 i (by omega) (by omega), ek 33 i (by omega) (by omega), ek 32 i (by omega) (by omega), e20, e41, e42, ef]
        rcases key with ⟨a, b, c⟩ | ⟨a, b, c, d, e⟩
        · rw [if_pos a, b, c]
          have hs := hsa i
          have h41 : G 41 i = 0 := by omega
          have h42 : G 42 i = 0 := by have := (h.1 a).1; omega
          rw [show (mK G - mK G + 1).toNat = 1 from by omega]
          show _ + G 42 i = 0 + (if (mK G + ((0 : Nat) : Int)) % G 31 i = G 33 i then G 32 i else 0)
          rw [show mK G + ((0 : Nat) : Int) = mK G from by omega, h42, h41]
          by_cases hd : mK G % G 31 i = G 33 i
          · rw [if_pos ⟨hin, hd⟩, if_pos hd]; omega
          · rw [if_neg (fun z => hd z.2), if_neg hd]; try omega
        · rw [if_neg a, b]
          obtain ⟨b1, b2, b3⟩ := h.2.1 a
          have hI := (h.2.2 i hi).1 a
          have hm := mMi_due (G := G) (i := i) (N := G 28 20) (f := mFst G) (m := (G 28 20 - mFst G + 1).toNat) hpp b2 (by omega) (mFar G - 1).toNat
          rw [hm, show (G 28 20 + mFar G - mFst G + 1).toNat = ((G 28 20 - mFst G + 1).toNat + (mFar G - 1).toNat) + 1 from by omega]
          show _ = mDue _ _ _ _ _ + (if _ then _ else _)
          have em : (mFst G + (((G 28 20 - mFst G + 1).toNat + (mFar G - 1).toNat : Nat) : Int)) % G 31 i = mK G % G 31 i := by
            rw [e]
            rcases hpp with h9 | h9 | h9 <;> rw [h9] <;> omega
          rw [em]
          by_cases hd : mK G % G 31 i = G 33 i
          · rw [if_pos ⟨hin, hd⟩, if_pos hd]; omega
          · rw [if_neg (fun z => hd z.2), if_neg hd]; try omega
      · unfold mTmI
        rw [ek 29 i (by omega) (by omega), ek 30 i (by omega) (by omega), ek 31 i (by omega) (by omega), ek 32 i (by omega) (by omega), ek 33 i (by omega) (by omega), ek 34 i (by omega) (by omega), e20, ef]
        by_cases hd : mK G % G 31 i = G 33 i
        · rw [show mDecG G 39 i = mVal G i (G 32 i - 1) from by rw [mDecG_39, if_pos ⟨hin, hd⟩, mDecG_v], show mDecG G 40 i = 64 * mNum G + mAt G i (G 32 i - 1) from by rw [mDecG_40, if_pos ⟨hin, hd⟩]]
          refine ⟨(mVal_range hpa hTi _).1, (mVal_range hpa hTi _).2, mNum G, ?_, Int.le_refl _, ?_, rfl⟩
          · rcases key with ⟨a, b, c⟩ | ⟨a, b, c, d, e⟩
            · rw [if_pos a, b]; exact Int.le_refl _
            · rw [if_neg a, b]; have := (h.2.1 a).2.2; omega
          · rcases key with ⟨a, b, c⟩ | ⟨a, b, c, d, e⟩
            · rw [b]; exact hd
            · rw [b, ← hd, e]
              rcases hpp with h9 | h9 | h9 <;> rw [h9] <;> omega
        · rw [show mDecG G 39 i = G 39 i from by rw [mDecG_39, if_neg (fun z9 => hd z9.2)], show mDecG G 40 i = G 40 i from by rw [mDecG_40, if_neg (fun z9 => hd z9.2)]]
          have h41 : G 41 i ≠ 0 := by rw [e41, if_neg (fun z => hd z.2)] at z; exact z
          have h21 : G 28 21 ≠ 0 := fun z9 => h41 (by have := hsa i; omega)
          obtain ⟨c1, c2, f, c3, c4, c5, c6⟩ := (h.2.2 i hi).2 h41
          rcases key with ⟨a, b, c⟩ | ⟨a, b, c, d, e⟩
          · exact absurd a h21
          · refine ⟨c1, c2, f, by rw [if_neg a]; exact c3, by omega, c5, c6⟩
theorem mRI_take {G : Nat → Nat → Int} {b : Int} (h : mRI G) (hok : mRcvOk G) (ht : G 28 12 < 8000) (hb : b = 0 ∨ b = 1) : mRI (mTake G b) ∧ (G 28 21 ≠ 0 → mTake G b 28 21 ≠ 0 ∧ mFst (mTake G b) = mFst G) := by
  by_cases hd : rDue G
  · rw [mTake_y hd]
    have h1 := h.to (G' := mT1 G b) (mT1_k G b (by omega) (by omega)) (fun j a c => mT1_k G b (by omega) (by omega)) (fun k j a c => mT1_k G b (by omega) (by omega)) (fun k j a c => mT1_k G b (by omega) (by omega))
    have h2 := mRI_decT h1.1 (mT1_ok hok ht hb (Or.inr (by have := hd.2.1; omega))).1
    refine ⟨h2.1, fun z => ⟨h2.2.1, (h2.2.2 ?_).trans h1.2⟩⟩
    rw [mT1_k G b (by omega) (by omega)]; exact z
  · have h1 := h.to (G' := mTake G b) (mTake_sc G b (by omega)) (fun j a c => mTake_n hd (by omega)) (fun k j a c => mTake_n hd (by omega)) (fun k j a c => mTake_n hd (by omega))
    exact ⟨h1.1, fun z => ⟨by rw [mTake_n hd (by omega)]; exact z, h1.2⟩⟩
theorem mRI_rcv {G : Nat → Nat → Int} (h : mRI G) (hok : mRcvOk G) (hl : ∀ j, G 37 j = 0 ∨ G 37 j = 1) (q : Nat) (hq : G 28 12 + (q : Int) ≤ 8000) : mRI (mRcv G q) ∧ (G 28 21 ≠ 0 → mRcv G q 28 21 ≠ 0 ∧ mFst (mRcv G q) = mFst G) := by
  induction q with
  | zero => exact ⟨h, fun z => ⟨z, rfl⟩⟩
  | succ q ih =>
    have h1 := ih (by omega)
    have h2 := mRcv_ok hok hl q (by omega)
    have h3 := mRI_take (b := G 37 q) h1.1 h2.1 (by rw [h2.2]; omega) (hl q)
    exact ⟨h3.1, fun z => ⟨(h3.2 (h1.2 z).1).1, (h3.2 (h1.2 z).1).2.trans (h1.2 z).2⟩⟩
