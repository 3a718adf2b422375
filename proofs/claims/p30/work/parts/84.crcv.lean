/-! ===== receiving ===== -/
abbrev rDue (G : Nat → Nat → Int) : Prop := G 28 14 ≠ 0 ∧ G 28 12 + 1 - G 28 15 = 64 ∧ G 28 18 ≠ 0
theorem mTake_y {G : Nat → Nat → Int} {b : Int} (h : rDue G) : mTake G b = mDecT (mT1 G b) := by
  unfold mTake
  rw [if_neg h.1, if_neg (by have := h.2.1; omega), if_pos h.2]
theorem mTake_n {G : Nat → Nat → Int} {b : Int} (h : ¬ rDue G) {k j : Nat} (hk : (k = 28 ∧ 19 ≤ j) ∨ (k ≠ 28 ∧ k ≠ 38)) : mTake G b k j = G k j := by
  have h3 : mT1 G b k j = G k j := mT1_k G b (by omega) (by omega)
  unfold mTake
  by_cases c1 : G 28 14 = 0
  · rw [if_pos c1]
    split
    · simp only [gu_at]
      rw [if_neg (by omega), if_neg (by omega), if_neg (by omega), if_neg (by omega)]
      exact h3
    · exact h3
  · rw [if_neg c1]
    by_cases c2 : G 28 12 + 1 - G 28 15 = 72
    · rw [if_pos c2, mCmp_k _ (by omega), gu_at, if_neg (by omega)]
      exact h3
    · rw [if_neg c2, if_neg (fun z => h ⟨c1, z.1, z.2⟩)]
      exact h3
theorem mTake_21 (G : Nat → Nat → Int) (b : Int) : mTake G b 28 21 = G 28 21 + mUsed G b := by
  unfold mUsed
  by_cases h : rDue G
  · rw [mTake_y h]
    unfold mDecT
    by_cases h2 : mRep1 (mT1 G b)
    · rw [if_pos h2, if_neg (fun z => z.2.2.2 h2), gu_at, if_neg (by omega), mT1_k G b (by omega) (by omega)]; omega
    · rw [if_neg h2, if_pos ⟨h.1, h.2.1, h.2.2, h2⟩, mDecG_21, mT1_k G b (by omega) (by omega)]
  · rw [mTake_n h (by omega), if_neg (fun z => h ⟨z.1, z.2.1, z.2.2.1⟩)]; omega
theorem mRcv_21 (G : Nat → Nat → Int) (q : Nat) : mRcv G q 28 21 = G 28 21 + mRcvU G q := by
  induction q with
  | zero => show G 28 21 = G 28 21 + 0; omega
  | succ q ih =>
    show mTake (mRcv G q) (G 37 q) 28 21 = G 28 21 + (mRcvU G q + mUsed (mRcv G q) (G 37 q))
    rw [mTake_21, ih]; omega
theorem mDecG_dr {G : Nat → Nat → Int} (h : mDrOk G) (hT : TsOk G) (hp : mPast G) (hn : 0 ≤ mNum G ∧ mNum G ≤ 3000000) : mDrOk (mDecG G) := by
  have hd : ∀ i : Nat, (-1000000 ≤ mDecG G 39 i ∧ mDecG G 39 i ≤ 1000000) ∧ (0 ≤ mDecG G 40 i ∧ mDecG G 40 i ≤ 1000000000) := by
    intro i
    have e39 : mDecG G 39 i = if i < (G 28 0).toNat ∧ mK G % G 31 i = G 33 i then mVal (mDec1 G) i (G 32 i - 1) else G 39 i := by
      unfold mDecG mGive
      rw [gr_ne _ _ (by decide), gr_ne _ _ (by decide), gr_self]
      simp only [mDec1_k G _ (show (31 : Nat) ≠ 28 by decide) (by decide), mDec1_k G _ (show (33 : Nat) ≠ 28 by decide) (by decide), mDec1_k G _ (show (32 : Nat) ≠ 28 by decide) (by decide), mDec1_k G _ (show (39 : Nat) ≠ 28 by decide) (by decide), Nat.lt_irrefl, and_false, if_false]
    have e40 : mDecG G 40 i = if i < (G 28 0).toNat ∧ mK G % G 31 i = G 33 i then 64 * mNum G + mAt (mDec1 G) i (G 32 i - 1) else G 40 i := by
      unfold mDecG mGive
      rw [gr_ne _ _ (by decide), gr_self]
      simp only [mDec1_k G _ (show (31 : Nat) ≠ 28 by decide) (by decide), mDec1_k G _ (show (33 : Nat) ≠ 28 by decide) (by decide), mDec1_k G _ (show (32 : Nat) ≠ 28 by decide) (by decide), mDec1_k G _ (show (40 : Nat) ≠ 28 by decide) (by decide), Nat.lt_irrefl, and_false, if_false]
      rfl
    have ho := h i
    rw [e39, e40]
    by_cases c1 : i < (G 28 0).toNat ∧ mK G % G 31 i = G 33 i
    · have hTi := hT.2.2 i (by omega)
      have hb := mBits_12 (G := mDec1 G) (fun j => by rw [Dec1_38]; exact hp j) (mDec1 G 28 15 + mAt (mDec1 G) i (G 32 i - 1)) (q := (G 29 i).toNat) (by omega)
      have hv : -1000000 ≤ mVal (mDec1 G) i (G 32 i - 1) ∧ mVal (mDec1 G) i (G 32 i - 1) ≤ 1000000 := by
        unfold mVal
        rw [mDec1_k G _ (by decide) (by decide), mDec1_k G _ (by decide) (by decide)]
        have := gDec_r (cv := G 30 i) hTi.1 hTi.2.1 hb
        omega
      rw [if_pos c1, if_pos c1]
      refine ⟨hv, ?_⟩
      unfold mAt
      rw [mDec1_k G _ (by decide) (by decide)]
      omega
    · rw [if_neg c1, if_neg c1]
      exact ⟨ho.2.2.2.1, ho.2.2.2.2⟩
  intro i
  have ho := h i
  rw [mDecG_k G (k := 46) (by omega) (by omega), mDecG_k G (k := 47) (by omega) (by omega), mDecG_k G (k := 48) (by omega) (by omega)]
  exact ⟨ho.1, ho.2.1, ho.2.2.1, (hd i).1, (hd i).2⟩
theorem mTake_dr {G : Nat → Nat → Int} {b : Int} (h : mDrOk G) (hok : mRcvOk G) (ht : G 28 12 < 8000) (hb : b = 0 ∨ b = 1) : mDrOk (mTake G b) := by
  by_cases hd : rDue G
  · rw [mTake_y hd]
    have h1 : mDrOk (mT1 G b) := h.to (fun j => mT1_k G b (by omega) (by omega)) (fun j => mT1_k G b (by omega) (by omega)) (fun k j _ _ => mT1_k G b (by omega) (by omega))
    have h2 := (mT1_ok hok ht hb (Or.inr (by have := hd.2.1; omega)))
    unfold mDecT
    by_cases hr : mRep1 (mT1 G b)
    · rw [if_pos hr]
      exact h1.to (fun j => by rw [gu_ne _ _ _ (by decide)]) (fun j => by rw [gu_ne _ _ _ (by decide)]) (fun k j a c9 => by rw [gu_ne _ _ _ (by omega)])
    · rw [if_neg hr]
      refine mDecG_dr h1 h2.1.1 h2.1.2.1 ?_
      obtain ⟨⟨hT, hp, ht0, hst, ⟨n1, n2, n3, n4, n5, n6, n7, n8⟩, hsa⟩, -⟩ := h2
      have hk := mK_range (G := mT1 G b) hp
      have hf := mFar_range (G := mT1 G b)
      unfold mNum
      split <;> omega
  · exact h.to (fun j => mTake_n hd (by omega)) (fun j => mTake_n hd (by omega)) (fun k j a c9 => mTake_n hd (by omega))
theorem mRcv_dr {G : Nat → Nat → Int} (h : mDrOk G) (hok : mRcvOk G) (hl : ∀ j, G 37 j = 0 ∨ G 37 j = 1) (q : Nat) (hq : G 28 12 + (q : Int) ≤ 8000) : mDrOk (mRcv G q) := by
  induction q with
  | zero => exact h
  | succ q ih =>
    have h2 := mRcv_ok hok hl q (by omega)
    exact mTake_dr (ih (by omega)) h2.1 (by rw [h2.2]; omega) (hl q)
/-- the receiver's end of the line has taken q bits -/
theorem CAll.rcv {n : Nat} {A A' : Nat → Nat → Int32} {J J' : Nat → Nat → Int64} {G : Nat → Nat → Int} (h : CAll n A J G) {q : Nat} (hq : (q : Int) ≤ G 28 10) (hs : CSy A' J' (mRcv G q)) (hd : CDe A' (mRcv G q)) (hF : ∀ i : Nat, i < n → PtF A' (mRcv G q) i) (h4 : A' 4 1 = nI ((G 28 12).toNat + q) ∧ A' 4 2 = nI ((G 28 12).toNat + (G 28 10).toNat)) (hO : ∀ k, k < 33 → k ≠ 4 → k ≠ 7 → k ≠ 8 → k ≠ 9 → A' k = A k) (hJ : ∀ k j, ¬ (k = 7 ∧ j = 2) → J' k j = J k j) :
    CAll n A' J' (mDrop (mRcv G q) 0 q (G 28 10 - (q : Int)).toNat) := by
  obtain ⟨hct, hn, hT, hFs, hpr, hz, hU, hD, hso, hse, hli, hsy, hde, hcd, hok, hdv, hdr, hsn, hol, hln⟩ := h
  have hta := hok.2.2.1
  have hR := mRcv_ok hok hln q (by omega)
  have r10 : mRcv G q 28 10 = G 28 10 := mRcv_sc G q (by omega)
  have hG : ∀ k j, k ≠ 37 → ¬ (k = 28 ∧ j = 10) → mDrop (mRcv G q) 0 q (G 28 10 - (q : Int)).toNat k j = mRcv G q k j := fun k j hk hk2 => by
    unfold mDrop
    rw [gr_ne _ _ hk, gu_at, if_neg hk2]
  have h10 : mDrop (mRcv G q) 0 q (G 28 10 - (q : Int)).toNat 28 10 = G 28 10 - (q : Int) := by
    unfold mDrop
    rw [gr_ne _ _ (by decide), gu_at, if_pos ⟨rfl, rfl⟩, r10]
  have h37 : ∀ j, mDrop (mRcv G q) 0 q (G 28 10 - (q : Int)).toNat 37 j = if j < (G 28 10 - (q : Int)).toNat then G 37 (j + q) else G 37 j := fun j => by
    unfold mDrop
    rw [gr_self, mRcv_k G q _ (by omega) (by omega), mRcv_k G q _ (by omega) (by omega)]
    simp
  have hk : ∀ k j, k ≠ 28 → k < 37 ∨ 42 < k → mDrop (mRcv G q) 0 q (G 28 10 - (q : Int)).toNat k j = G k j := fun k j a b => (hG k j (by omega) (by omega)).trans (mRcv_k G q j a (by omega))
  have hs9 : ∀ j, j < 10 → mDrop (mRcv G q) 0 q (G 28 10 - (q : Int)).toNat 28 j = G 28 j := fun j a => (hG 28 j (by omega) (by omega)).trans (mRcv_sc G q (by omega))
  have hT2 : TsOk (mDrop (mRcv G q) 0 q (G 28 10 - (q : Int)).toNat) := hT.to (hs9 0 (by omega)) (fun k j a b => hk k j (by omega) (by omega))
  have h12 : mDrop (mRcv G q) 0 q (G 28 10 - (q : Int)).toNat 28 12 = G 28 12 + (q : Int) := (hG _ _ (by omega) (by omega)).trans hR.2
  obtain ⟨l1, l2, l3⟩ := hli
  refine ⟨by rw [hO 1 (by omega) (by omega) (by omega) (by omega) (by omega)]; exact hct, by rw [hs9 0 (by omega)]; exact hn, hT2, fun i hi => (hF i hi).to rfl rfl (fun k a b c9 d e => hG k i (by omega) (by omega)), hpr.to (hs9 0 (by omega)) (fun k j a b => hk k j (by omega) (by omega)), fun i hi => by rw [hk _ _ (by omega) (by omega)]; exact hz i hi, hU.to (funext fun r => hJ 3 r (by omega)) (hs9 0 (by omega)) (fun k j a b => hk k j (by omega) (by omega)), hD.to (hs9 0 (by omega)) (fun k j a b => hk k j (by omega) (by omega)), fun j => by rw [hk _ _ (by omega) (by omega)]; exact hso j,
    hse.to (by rw [hO 6 (by omega) (by omega) (by omega) (by omega) (by omega)]) (hJ 6 1 (by omega)) (hs9 0 (by omega)) (hs9 9 (by omega)) (fun k j a b => hk k j (by omega) (by omega)) (fun j => hk _ _ (by omega) (by omega)), ⟨?_, ?_, fun j hj => ?_⟩, hs.to rfl rfl rfl (fun j => hG _ _ (by omega) (by omega)) (fun j _ _ => hG _ _ (by omega) (by omega)), hd.to rfl (fun j _ _ => hG _ _ (by omega) (by omega)), hcd.to (fun i hi => hO _ (by omega) (by omega) (by omega) (by omega) (by omega)) (fun k j _ _ => hk _ _ (by omega) (by omega)), hR.1.to hT2 (fun j => hG _ _ (by omega) (by omega)) (fun j _ _ => hG _ _ (by omega) (by omega)) (fun j => hG _ _ (by omega) (by omega)) (fun j => hG _ _ (by omega) (by omega)), hdv.to (fun k j _ _ => hk _ _ (by omega) (by omega)), (mRcv_dr hdr hok hln q (by omega)).to (fun j => hG _ _ (by omega) (by omega)) (fun j => hG _ _ (by omega) (by omega)) (fun k j _ _ => hG _ _ (by omega) (by omega)), by rw [hs9 9 (by omega)]; exact hsn, by rw [h12, h10, hs9 9 (by omega)]; omega, fun j => ?_⟩
  · rw [h12, h4.1]; congr 1; omega
  · rw [h12, h10, h4.2]; congr 1; omega
  · rw [h10] at hj
    rw [h12, h37, if_pos hj, hO 5 (by omega) (by omega) (by omega) (by omega) (by omega), show (G 28 12 + (q : Int)).toNat + j = (G 28 12).toNat + (j + q) from by omega]
    exact l3 _ (by omega)
  · rw [h37]
    split
    · exact hln _
    · exact hln _
