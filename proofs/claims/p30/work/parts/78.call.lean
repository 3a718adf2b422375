/-! ===== the class and the reference are at one ===== -/
theorem CSe.to {A A' : Nat → Nat → Int32} {J J' : Nat → Nat → Int64} {G G' : Nat → Nat → Int} (h : CSe A J G) (hA : A' 6 0 = A 6 0) (hJ : J' 6 1 = J 6 1) (h0 : G' 28 0 = G 28 0) (h9 : G' 28 9 = G 28 9) (h1 : ∀ k j, 29 ≤ k → k ≤ 34 → G' k j = G k j) (h36 : ∀ j, G' 36 j = G 36 j) : CSe A' J' G' := by
  obtain ⟨a, b⟩ := h
  have hc : mCtr G' = mCtr G := by unfold mCtr; rw [h9]
  have hw : mWd G' = mWd G := by unfold mWd; rw [h9]
  have h6 : G' 36 = G 36 := funext h36
  refine ⟨by rw [hA, a, h9], fun hz => ?_⟩
  rw [hJ, hc, hw, h6]
  exact (b (by rw [← h9]; exact hz)).to h0 h1
theorem CLi.to {A A' : Nat → Nat → Int32} {G G' : Nat → Nat → Int} {hq : Nat} (h : CLi A G hq) (h4 : A' 4 = A 4) (h5 : A' 5 = A 5) (h10 : G' 28 10 = G 28 10) (h37 : ∀ j, G' 37 j = G 37 j) : CLi A' G' hq := by
  obtain ⟨a, b, c9⟩ := h
  refine ⟨by rw [h4]; exact a, by rw [h4, h10]; exact b, fun j hj => ?_⟩
  rw [h5, h37]
  exact c9 j (by rw [← h10]; exact hj)
theorem CSy.to {A A' : Nat → Nat → Int32} {J J' : Nat → Nat → Int64} {G G' : Nat → Nat → Int} (h : CSy A J G) (h7 : A' 7 = A 7) (h8 : A' 8 = A 8) (hJ : J' 7 2 = J 7 2) (h38 : ∀ j, G' 38 j = G 38 j) (hs : ∀ j, 12 ≤ j → j ≤ 17 → G' 28 j = G 28 j) : CSy A' J' G' := by
  obtain ⟨a, b, c9, d, e, f, g⟩ := h
  have e12 := hs 12 (by omega) (by omega)
  have e14 := hs 14 (by omega) (by omega)
  have e15 := hs 15 (by omega) (by omega)
  refine ⟨by rw [h7, e14]; exact a, by rw [h7, e12]; exact b, by rw [hJ, e12]; exact c9.to h38, fun z => ?_, fun z => ?_, fun z => ?_, fun o ho => ?_⟩
  · rw [h7, e12, e15]; exact d (by rw [← e14]; exact z)
  · rw [h7, hs 16 (by omega) (by omega)]; exact e (by rw [← e14]; exact z)
  · rw [h7, hs 17 (by omega) (by omega)]; exact f (by rw [← e14]; exact z)
  · rw [h8, mMat_38 h38 e12]; exact g o ho
theorem CDe.to {A A' : Nat → Nat → Int32} {G G' : Nat → Nat → Int} (h : CDe A G) (h9 : A' 9 = A 9) (hs : ∀ j, 19 ≤ j → j ≤ 23 → G' 28 j = G 28 j) : CDe A' G' := by
  unfold CDe at *
  rw [h9, hs 19 (by omega) (by omega), hs 20 (by omega) (by omega), hs 21 (by omega) (by omega), hs 22 (by omega) (by omega), hs 23 (by omega) (by omega)]
  exact h
theorem CDv.to {A A' : Nat → Nat → Int32} {G G' : Nat → Nat → Int} (h : CDv A G) (hA : ∀ i, i < 8 → A' (12 + 2 * i) = A (12 + 2 * i)) (hs : ∀ k j, 43 ≤ k → k ≤ 45 → G' k j = G k j) : CDv A' G' := fun i hi => by
  rw [hA i hi, hs 43 i (by omega) (by omega), hs 44 i (by omega) (by omega), hs 45 i (by omega) (by omega)]
  exact h i hi
theorem mRcvOk.to {G G' : Nat → Nat → Int} (h : mRcvOk G) (hT : TsOk G') (h38 : ∀ j, G' 38 j = G 38 j) (hs : ∀ j, 12 ≤ j → j ≤ 23 → G' 28 j = G 28 j) (h41 : ∀ j, G' 41 j = G 41 j) (h42 : ∀ j, G' 42 j = G 42 j) : mRcvOk G' := by
  obtain ⟨-, a, b, c9, d, e⟩ := h
  refine ⟨hT, fun j => by rw [h38]; exact a j, by rw [hs 12 (by omega) (by omega)]; exact b, ?_, ?_, fun i => ?_⟩
  · rw [mStOk, hs 12 (by omega) (by omega), hs 14 (by omega) (by omega), hs 15 (by omega) (by omega), hs 18 (by omega) (by omega)]; exact c9
  · rw [mNrOk, mCtrOk, hs 12 (by omega) (by omega), hs 16 (by omega) (by omega), hs 17 (by omega) (by omega), hs 18 (by omega) (by omega), hs 19 (by omega) (by omega), hs 20 (by omega) (by omega), hs 21 (by omega) (by omega), hs 22 (by omega) (by omega), hs 23 (by omega) (by omega)]; exact d
  · rw [h41, h42, hs 21 (by omega) (by omega), hs 22 (by omega) (by omega)]; exact e i
theorem UsR.to {J J' : Nat → Nat → Int64} {G G' : Nat → Nat → Int} (h : UsR J G) (hJ : J' 3 = J 3) (h0 : G' 28 0 = G 28 0) (h1 : ∀ k j, 29 ≤ k → k ≤ 34 → G' k j = G k j) : UsR J' G' := fun r hr i => by
  have hu : ∀ k : Nat, mUser G' (r : Int) (i : Int) k = mUser G (r : Int) (i : Int) k := by
    intro k
    induction k with
    | zero => rfl
    | succ k ih => simp only [mUser, mCov, ih, h1 29 k (by omega) (by omega), h1 31 k (by omega) (by omega), h1 32 k (by omega) (by omega), h1 33 k (by omega) (by omega), h1 34 k (by omega) (by omega)]
  rw [hJ, h0, hu]
  exact h r hr i
theorem mDvOk.to {G G' : Nat → Nat → Int} (h : mDvOk G) (hs : ∀ k j, 43 ≤ k → k ≤ 45 → G' k j = G k j) : mDvOk G' := fun i => by
  rw [hs 43 i (by omega) (by omega), hs 44 i (by omega) (by omega), hs 45 i (by omega) (by omega)]
  exact h i
theorem mDrOk.to {G G' : Nat → Nat → Int} (h : mDrOk G) (h39 : ∀ j, G' 39 j = G 39 j) (h40 : ∀ j, G' 40 j = G 40 j) (hs : ∀ k j, 46 ≤ k → k ≤ 48 → G' k j = G k j) : mDrOk G' := fun i => by
  rw [h39, h40, hs 46 i (by omega) (by omega), hs 47 i (by omega) (by omega), hs 48 i (by omega) (by omega)]
  exact h i
/-- all of it: the points, the line and its ends, the receiver, the derived points -/
def CAll (n : Nat) (A : Nat → Nat → Int32) (J : Nat → Nat → Int64) (G : Nat → Nat → Int) : Prop :=
  (A 1 1 = nI n ∧ n ≤ 12) ∧ G 28 0 = (n : Int) ∧ TsOk G ∧ (∀ i : Nat, i < n → PtF A G i) ∧ mPres G ∧ (∀ i : Nat, n ≤ i → G 35 i = 0) ∧ UsR J G ∧ mDisj G ∧ mSndOk G ∧ CSe A J G ∧ CLi A G (G 28 12).toNat ∧ CSy A J G ∧ CDe A G ∧ CDv A G ∧ mRcvOk G ∧ mDvOk G ∧ mDrOk G ∧ (0 ≤ G 28 9 ∧ G 28 9 ≤ 1000) ∧ (0 ≤ G 28 10 ∧ G 28 12 + G 28 10 ≤ 8 * G 28 9) ∧ ∀ j, G 37 j = 0 ∨ G 37 j = 1
/-- but for the reference's own cells and out nothing is read of it -/
theorem CAll.of {n : Nat} {A A' : Nat → Nat → Int32} {J : Nat → Nat → Int64} {G : Nat → Nat → Int} (h : CAll n A J G) (hA : ∀ k, k < 28 ∨ 33 ≤ k → A' k = A k) : CAll n A' J G := by
  obtain ⟨hct, hn, hT, hFs, hpr, hz, hU, hD, hso, hse, hli, hsy, hde, hcd, hok, hdv, hdr, hsn, hol, hln⟩ := h
  exact ⟨by rw [hA 1 (by omega)]; exact hct, hn, hT, fun i hi => (hFs i hi).to (hA _ (by omega)) (hA _ (by omega)) (fun _ _ _ _ _ _ => rfl), hpr, hz, hU, hD, hso, hse.to (by rw [hA 6 (by omega)]) rfl rfl rfl (fun _ _ _ _ => rfl) (fun _ => rfl), hli.to (hA 4 (by omega)) (hA 5 (by omega)) rfl (fun _ => rfl), hsy.to (hA 7 (by omega)) (hA 8 (by omega)) rfl (fun _ => rfl) (fun _ _ _ => rfl), hde.to (hA 9 (by omega)) (fun _ _ _ => rfl), hcd.to (fun i hi => hA _ (by omega)) (fun _ _ _ _ => rfl), hok, hdv, hdr, hsn, hol, hln⟩
/-- a point gets a present value -/
theorem CAll.put {n : Nat} {A : Nat → Nat → Int32} {J : Nat → Nat → Int64} {G : Nat → Nat → Int} (h : CAll n A J G) {i : Nat} {v : Int} (hi : i < n) (hv : gLo (G 30 i) (G 29 i) ≤ v ∧ v ≤ gHi (G 30 i) (G 29 i)) : CAll n (gu A (33 + 2 * i) 6 (zI v)) J (gu G 35 i v) := by
  obtain ⟨hct, hn, hT, hFs, hpr, hz, hU, hD, hso, hse, hli, hsy, hde, hcd, hok, hdv, hdr, hsn, hol, hln⟩ := h
  have hG : ∀ k j, k ≠ 35 → gu G 35 i v k j = G k j := fun k j hk => by rw [gu_ne _ _ _ hk]
  have hA : ∀ k, k < 33 → gu A (33 + 2 * i) 6 (zI v) k = A k := fun k hk => gu_ne _ _ _ (by omega)
  have hT2 : TsOk (gu G 35 i v) := hT.to (hG _ _ (by omega)) (fun k j a b => hG k j (by omega))
  refine ⟨by rw [hA 1 (by omega)]; exact hct, by rw [hG _ _ (by omega)]; exact hn, hT2, fun q hq => ?_, fun q hq => ?_, fun q hq => ?_, hU.to rfl (hG _ _ (by omega)) (fun k j a b => hG k j (by omega)), hD.to (hG _ _ (by omega)) (fun k j a b => hG k j (by omega)), fun j => by rw [hG _ _ (by omega)]; exact hso j,
    hse.to (by rw [hA 6 (by omega)]) rfl (hG _ _ (by omega)) (hG _ _ (by omega)) (fun k j a b => hG k j (by omega)) (fun j => hG _ _ (by omega)), by rw [hG 28 12 (by omega)]; exact hli.to (hA 4 (by omega)) (hA 5 (by omega)) (hG _ _ (by omega)) (fun j => hG _ _ (by omega)), hsy.to (hA 7 (by omega)) (hA 8 (by omega)) rfl (fun j => hG _ _ (by omega)) (fun j _ _ => hG _ _ (by omega)), hde.to (hA 9 (by omega)) (fun j _ _ => hG _ _ (by omega)), hcd.to (fun i hi => hA _ (by omega)) (fun k j _ _ => hG _ _ (by omega)), hok.to hT2 (fun j => hG _ _ (by omega)) (fun j _ _ => hG _ _ (by omega)) (fun j => hG _ _ (by omega)) (fun j => hG _ _ (by omega)), hdv.to (fun k j _ _ => hG _ _ (by omega)), hdr.to (fun j => hG _ _ (by omega)) (fun j => hG _ _ (by omega)) (fun k j _ _ => hG _ _ (by omega)), by rw [hG _ _ (by omega)]; exact hsn, by rw [hG _ _ (by omega), hG _ _ (by omega), hG _ _ (by omega)]; exact hol, fun j => by rw [hG _ _ (by omega)]; exact hln j⟩
  · by_cases hqi : q = i
    · subst hqi
      have hp := hFs q hq
      unfold PtF PtR at *
      simp only [gu_at]
      have hp2 := And.intro hp.1 hp.2.2
      simpa using hp2
    · have hp := hFs q hq
      unfold PtF PtR at *
      rw [gu_ne A (k' := 33 + 2 * q) _ _ (by omega), gu_ne A (k' := 33 + 2 * q + 1) _ _ (by omega)]
      simp only [gu_at]
      simpa [hqi] using hp
  · rw [hG 28 0 (by omega)] at hq
    rw [hG 30 _ (by omega), hG 29 _ (by omega), gu_at]
    by_cases hqi : q = i
    · subst hqi
      rw [if_pos ⟨rfl, rfl⟩]; exact hv
    · rw [if_neg (fun z => hqi z.2)]; exact hpr q hq
  · rw [gu_at, if_neg (by omega)]; exact hz q hq
