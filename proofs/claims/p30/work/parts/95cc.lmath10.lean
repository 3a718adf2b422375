/-! ===== the end of a whole frame ===== -/
theorem gEnc_k {G : Nat → Nat → Int} {i : Nat} (hT : TOk G i) (hv : gLo (G 30 i) (G 29 i) ≤ G 35 i ∧ G 35 i ≤ gHi (G 30 i) (G 29 i)) : ∃ k : Nat, gEnc (G 30 i) (G 29 i) (G 35 i) = (k : Int) ∧ k < 2 ^ (G 29 i).toNat := by
  obtain ⟨t1, t2, t3, t4, -⟩ := hT
  have h1 := gEnc_range t1 t2 ⟨t3, t4⟩ hv
  rw [gHf_pow t1 t2] at h1
  refine ⟨(gEnc (G 30 i) (G 29 i) (G 35 i)).toNat, by omega, ?_⟩
  have h2 : (((gEnc (G 30 i) (G 29 i) (G 35 i)).toNat : Nat) : Int) < ((2 ^ (G 29 i).toNat : Nat) : Int) := by
    rw [Int.natCast_pow]
    show _ < (2 : Int) ^ _
    omega
  exact Int.ofNat_lt.mp h2
theorem frame_64 {G : Nat → Nat → Int} {f : Nat} (hW : WI G f) (hf : f < 36) (hT : TsOk G) (hD : mDisj G) (hP : mPres G) (h41 : ∀ i, 0 ≤ G 41 i) (h19 : G 28 19 = -1 ↔ G 28 21 = 0) :
    mRcv (mSend G 8) 64 28 15 = 64 * (f : Int) ∧ (f < 2 → mRcv (mSend G 8) 64 28 14 = 1 ∧ mRcv (mSend G 8) 64 28 16 = (f : Int) + 1 ∧ mRcv (mSend G 8) 64 28 18 = 0 ∧ mRcv (mSend G 8) 64 28 21 = 0) ∧ (2 ≤ f → mRcv (mSend G 8) 64 28 14 = 2 ∧ mRcv (mSend G 8) 64 28 18 = 1 ∧ mRcv (mSend G 8) 64 28 21 = (f : Int) - 1 ∧ mRcv (mSend G 8) 64 28 19 = (f : Int) ∧ mRcv (mSend G 8) 64 28 20 = (f : Int)) ∧
    mRcv (mSend G 8) 64 28 22 = 0 ∧ mRcv (mSend G 8) 64 28 23 = 0 ∧ (∀ i : Nat, (i : Int) < G 28 0 → mRcv (mSend G 8) 64 42 i = 0) ∧
    (∀ i : Nat, (i : Int) < G 28 0 → 2 ≤ f → (f : Int) % G 31 i = G 33 i → mRcv (mSend G 8) 64 41 i ≠ 0 ∧ mRcv (mSend G 8) 64 39 i = G 35 i ∧ (64 * (f : Int) ≤ mRcv (mSend G 8) 64 40 i ∧ mRcv (mSend G 8) 64 40 i < 64 * (f : Int) + 64)) := by
  obtain ⟨f1, f2, f3, f4, f5⟩ := frame_8 hW hf
  obtain ⟨⟨w9, w10, w12, w22, w23⟩, w42, wc, w0, w15, w13, w3, w21⟩ := hW
  have gS : ∀ k j, k ≠ 36 → k ≠ 37 → ¬ (k = 28 ∧ (j = 9 ∨ j = 10)) → mSend G 8 k j = G k j := fun k j a b c => mSend_k G 8 a b c
  have s12 : mSend G 8 28 12 = 64 * (f : Int) := (gS 28 12 (by decide) (by decide) (by omega)).trans w12
  have h14 : mRcv (mSend G 8) 8 28 14 ≠ 0 := by
    by_cases h2 : f < 2
    · have := (f4 h2).1; omega
    · have := (f5 (by omega)).1; omega
  by_cases h2 : f < 2
  · obtain ⟨a14, a16, a18⟩ := f4 h2
    have q64 : ∀ {k j : Nat}, k ≠ 38 → ¬ (k = 28 ∧ j = 12) → mRcv (mSend G 8) 64 k j = mRcv (mSend G 8) 8 k j := fun {k j} a b =>
      rcv_quiet (G := mSend G 8) 8 h14 56 (fun r hr => by rw [s12, f3, a18]; exact ⟨by omega, fun z => z.2 rfl⟩) a b
    refine ⟨by rw [q64 (by decide) (by decide)]; exact f3, fun _ => ⟨?_, ?_, ?_, ?_⟩, fun z => by omega, ?_, ?_, fun i hi => ?_, fun i hi z => by omega⟩
    · rw [q64 (by decide) (by decide)]; exact a14
    · rw [q64 (by decide) (by decide)]; exact a16
    · rw [q64 (by decide) (by decide)]; exact a18
    · rw [q64 (by decide) (by decide), f2 21 (by decide)]; exact w21 (by omega)
    · rw [q64 (by decide) (by decide), f2 22 (by decide)]; exact w22
    · rw [q64 (by decide) (by decide), f2 23 (by decide)]; exact w23
    · rw [q64 (by decide) (by omega), f1 42 i (by decide) (by decide), gS 42 i (by decide) (by decide) (by omega)]; exact w42 i hi
  · obtain ⟨a14, a18⟩ := f5 (by omega)
    have q63 : ∀ {k j : Nat}, k ≠ 38 → ¬ (k = 28 ∧ j = 12) → mRcv (mSend G 8) 63 k j = mRcv (mSend G 8) 8 k j := fun {k j} a b =>
      rcv_quiet (G := mSend G 8) 8 h14 55 (fun r hr => by rw [s12, f3]; exact ⟨by omega, fun z => by omega⟩) a b
    obtain ⟨b63, hb63⟩ : ∃ b, mSend G 8 37 63 = b := ⟨_, rfl⟩
    have t63 : mRcv (mSend G 8) 63 28 12 = 64 * (f : Int) + 63 := by rw [mRcv_12, s12]; rfl
    obtain ⟨Z, hZ⟩ : ∃ Z, mT1 (mRcv (mSend G 8) 63) b63 = Z := ⟨_, rfl⟩
    have e64 : mRcv (mSend G 8) 64 = mDecT Z := by
      rw [← hZ, ← hb63]
      exact mTake_y ⟨by rw [q63 (by decide) (by decide)]; exact h14, by rw [t63, q63 (by decide) (by decide), f3]; omega, by rw [q63 (by decide) (by decide), a18]; decide⟩
    have zk : ∀ k j, k ≠ 38 → k ≠ 28 → Z k j = mSend G 8 k j := fun k j a b => by rw [← hZ, mT1_k _ _ (by omega) (by omega), q63 a (by omega), f1 k j a b]
    have z28 : ∀ j, j ≠ 12 → Z 28 j = mRcv (mSend G 8) 8 28 j := fun j a => by rw [← hZ, mT1_k _ _ (by omega) (by omega), q63 (by decide) (by omega)]
    have z15 : Z 28 15 = 64 * (f : Int) := (z28 15 (by decide)).trans f3
    have z19 : Z 28 19 = G 28 19 := (z28 19 (by decide)).trans (f2 19 (by decide))
    have z20 : Z 28 20 = G 28 20 := (z28 20 (by decide)).trans (f2 20 (by decide))
    have z21 : Z 28 21 = G 28 21 := (z28 21 (by decide)).trans (f2 21 (by decide))
    have z22 : Z 28 22 = 0 := (z28 22 (by decide)).trans ((f2 22 (by decide)).trans w22)
    have z23 : Z 28 23 = 0 := (z28 23 (by decide)).trans ((f2 23 (by decide)).trans w23)
    have z0 : Z 28 0 = G 28 0 := by rw [← hZ, mT1_k _ _ (by omega) (by omega), mRcv_sc _ _ (by omega), mSend_0]
    have zr : ∀ k j, 29 ≤ k → k ≤ 35 → Z k j = G k j := fun k j a b => (zk k j (by omega) (by omega)).trans (gS k j (by omega) (by omega) (by omega))
    have h38 : ∀ q : Nat, q < 64 → Z 38 (64 * (f : Int) + (q : Int)).toNat = mSend G 8 37 q := by
      intro q hq
      have h1 : mRcv (mSend G 8) 64 38 (64 * (f : Int) + (q : Int)).toNat = Z 38 (64 * (f : Int) + (q : Int)).toNat := by
        rw [← hZ, ← hb63]
        exact take_38 _ _ _
      rw [← h1, rcv_38 (by rw [s12]; omega), s12, if_pos (by omega), show (64 * (f : Int) + (q : Int)).toNat - (64 * (f : Int)).toNat = q from by omega]
    have hK : mK Z = (f : Int) := by
      unfold mK
      rw [z15]
      refine mBits_of (k := f) (by omega) (fun r hr => ?_)
      rw [show 64 * (f : Int) + 8 + (r : Int) = 64 * (f : Int) + ((8 + r : Nat) : Int) from by omega, h38 _ (by omega), snd_cnt w9 w10 (by omega) (by omega) (by omega), show (15 : Int) - ((8 + r : Nat) : Int) = ((8 : Nat) : Int) - 1 - (r : Int) from by omega]
    have hF : (f = 2 ∧ Z 28 19 = -1 ∧ Z 28 21 = 0 ∧ mFar Z = 0 ∧ mNum Z = (f : Int)) ∨ (3 ≤ f ∧ Z 28 19 ≠ -1 ∧ Z 28 21 = (f : Int) - 2 ∧ mFar Z = 1 ∧ mNum Z = (f : Int)) := by
      by_cases h3 : f < 3
      · have a := w21 h3
        have b := h19.mpr a
        refine Or.inl ⟨by omega, z19.trans b, z21.trans a, ?_, ?_⟩
        · unfold mFar; rw [if_pos (z19.trans b)]
        · unfold mNum; rw [if_pos (z19.trans b)]; exact hK
      · obtain ⟨a, b, c, d, e⟩ := w3 (by omega)
        have z19n : Z 28 19 ≠ -1 := by rw [z19, d]; omega
        have hfar : mFar Z = 1 := by unfold mFar; rw [if_neg z19n, hK, z19, d]; omega
        refine Or.inr ⟨by omega, z19n, z21.trans c, hfar, ?_⟩
        unfold mNum
        rw [if_neg z19n, hfar, z20, e]
        omega
    have hnr : ¬ mRep1 Z := fun z => by
      rcases hF with ⟨-, a, -⟩ | ⟨-, -, -, a, -⟩
      · exact z.1 a
      · have := z.2; omega
    have hq0 : (mFar Z - 1).toNat = 0 := by
      rcases hF with ⟨-, -, -, a, -⟩ | ⟨-, -, -, a, -⟩ <;> omega
    have hnum : mNum Z = (f : Int) := by
      rcases hF with ⟨-, -, -, -, a⟩ | ⟨-, -, -, -, a⟩ <;> exact a
    have hG : mRcv (mSend G 8) 64 = mDecG Z := by rw [e64]; unfold mDecT; rw [if_neg hnr]
    rw [hG]
    refine ⟨by rw [mDecG_k Z (by omega) (by omega)]; exact z15, fun z => absurd z h2, fun _ => ⟨?_, ?_, ?_, ?_, ?_⟩, ?_, ?_, fun i hi => ?_, fun i hi _ hs => ?_⟩
    · rw [mDecG_k Z (by omega) (by omega), z28 14 (by decide)]; exact a14
    · rw [mDecG_k Z (by omega) (by omega), z28 18 (by decide)]; exact a18
    · rw [mDecG_21]
      rcases hF with ⟨a, -, b, -⟩ | ⟨-, -, b, -⟩ <;> omega
    · rw [mDecG_19]; exact hK
    · rw [mDecG_20]; exact hnum
    · rw [mDecG_22, hq0, z22]; rfl
    · rw [mDecG_k Z (by omega) (by omega)]; exact z23
    · rw [mDecG_42, if_pos (by rw [z0]; exact hi), hq0]
      show Z 42 i = 0
      rw [zk 42 i (by decide) (by decide), gS 42 i (by decide) (by decide) (by omega)]
      exact w42 i hi
    · have hTi := hT.2.2 i hi
      obtain ⟨t1, t2, t3, t4, t5, t6⟩ := TOk_at hTi
      have hin : i < (Z 28 0).toNat ∧ mK Z % Z 31 i = Z 33 i := by
        rw [z0, hK, zr 31 i (by decide) (by decide), zr 33 i (by decide) (by decide)]
        exact ⟨by omega, hs⟩
      refine ⟨?_, ?_, ?_⟩
      · rw [mDecG_41, if_pos hin, zr 32 i (by decide) (by decide), zk 41 i (by decide) (by decide), gS 41 i (by decide) (by decide) (by omega)]
        have := h41 i
        omega
      · rw [mDecG_39, if_pos hin, mDecG_v]
        unfold mVal mAt
        rw [z15, zr 30 i (by decide) (by decide), zr 29 i (by decide) (by decide), zr 34 i (by decide) (by decide), zr 32 i (by decide) (by decide)]
        obtain ⟨k, hk, hk2⟩ := gEnc_k hTi (hP i hi)
        have hb : mBits Z (64 * (f : Int) + (16 + G 34 i + 24 * (G 32 i - 1))) (G 29 i).toNat = (k : Int) := by
          refine mBits_of hk2 (fun r hr => ?_)
          have hd := snd_dat hT hD w9 w10 (by omega) (i := i) (e := (G 32 i - 1).toNat) (r := r) hi (by omega) hs (by omega)
          unfold mAt at hd
          rw [hk] at hd
          rw [show 64 * (f : Int) + (16 + G 34 i + 24 * (G 32 i - 1)) + (r : Int) = 64 * (f : Int) + (((16 + G 34 i + 24 * (((G 32 i - 1).toNat : Nat) : Int) + (r : Int)).toNat : Nat) : Int) from by omega, h38 _ (by have := hTi.2.2.2.2.2.2.2.2.2.2; omega), hd, show (((G 29 i).toNat : Nat) : Int) = G 29 i from by omega]
        rw [hb, ← hk]
        exact gDec_gEnc t2 t1.1 t1.2 (hP i hi)
      · rw [mDecG_40, if_pos hin, hnum]
        unfold mAt
        rw [zr 34 i (by decide) (by decide), zr 32 i (by decide) (by decide)]
        omega
theorem WI_step {G : Nat → Nat → Int} {f : Nat} (hW : WI G f) (hf : f < 36) (hT : TsOk G) (hD : mDisj G) (hP : mPres G) (h41 : ∀ i, 0 ≤ G 41 i) (h19 : G 28 19 = -1 ↔ G 28 21 = 0) (x : Nat) :
    WI (mDrop (mRcv (mSend G 8) 64) 0 64 x) (f + 1) ∧ mWh (mDrop (mRcv (mSend G 8) 64) 0 64 x) f ∧ mRcvU (mSend G 8) 64 = if f < 2 then 0 else 1 := by
  obtain ⟨g15, gA, gB, g22, g23, g42, gP⟩ := frame_64 hW hf hT hD hP h41 h19
  have hu := mRcv_21 (mSend G 8) 64
  have s21 : mSend G 8 28 21 = G 28 21 := mSend_k G 8 (by decide) (by decide) (by omega)
  have s12 : mSend G 8 28 12 = 64 * (f : Int) := (mSend_k G 8 (by decide) (by decide) (by omega)).trans hW.1.2.2.1
  have r0 : mDrop (mRcv (mSend G 8) 64) 0 64 x 28 0 = G 28 0 := by rw [drop_j (by decide), mRcv_sc _ _ (by omega), mSend_0]
  have rk : ∀ k j, 29 ≤ k → k ≤ 35 → mDrop (mRcv (mSend G 8) 64) 0 64 x k j = G k j := fun k j a b => by
    rw [drop_k (by omega) (by omega), mRcv_k _ _ _ (by omega) (by omega), mSend_k G 8 (by omega) (by omega) (by omega)]
  have r38 : ∀ j, mDrop (mRcv (mSend G 8) 64) 0 64 x 38 j = if 64 * f ≤ j ∧ j < 64 * f + 64 then mSend G 8 37 (j - 64 * f) else G 38 j := fun j => by
    rw [drop_k (by decide) (by decide), rcv_38 (by rw [s12]; omega), s12, show (64 * (f : Int)).toNat = 64 * f from by omega, mSend_k G 8 (k := 38) (by decide) (by decide) (by omega)]
  have hc : mCnt (mDrop (mRcv (mSend G 8) 64) 0 64 x) 0 (f + 1) = (f : Int) + 1 := by
    show mCnt _ 0 f + (if mBits _ ((0 + 64 * f : Nat) : Int) 8 = 184 then 1 else 0) = _
    rw [mCnt_eq (G := G) f (fun j hj => by rw [r38, if_neg (by omega)]), hW.2.2.1, if_pos]
    rw [show ((0 + 64 * f : Nat) : Int) = 64 * (f : Int) from by omega]
    refine mBits_of (k := 184) (by decide) (fun r hr => ?_)
    rw [r38, if_pos (by omega), show (64 * (f : Int) + (r : Int)).toNat - 64 * f = r from by omega]
    rw [snd_sync hW.1.1 hW.1.2.1 (show f < 256 by omega) hr, show (7 : Int) - (r : Int) = ((8 : Nat) : Int) - 1 - (r : Int) from by omega]
    rfl
  have h21 : f < 3 → G 28 21 = 0 := hW.2.2.2.2.2.2.2
  have h3 := hW.2.2.2.2.2.2.1
  refine ⟨⟨⟨?_, ?_, ?_, ?_, ?_⟩, fun i hi => ?_, ?_, fun z => by omega, fun _ => ?_, fun _ h9 => ?_, fun h9 => ?_, fun h9 => ?_⟩, ⟨?_, ?_, fun h9 => ?_, fun h9 => ?_, ?_, fun i hi h9 hs => ?_⟩, ?_⟩
  · rw [drop_j (by decide), mRcv_sc _ _ (by omega), mSend_9, hW.1.1]; omega
  · rw [drop_10, mRcv_sc _ _ (by omega), mSend_10, hW.1.2.1]; omega
  · rw [drop_j (by decide), mRcv_12, s12]; omega
  · rw [drop_j (by decide)]; exact g22
  · rw [drop_j (by decide)]; exact g23
  · rw [drop_k (by decide) (by decide)]; rw [r0] at hi; exact g42 i hi
  · rw [hc]; omega
  · rw [drop_j (by decide), g15]; omega
  · rw [drop_j (by decide), drop_j (by decide), drop_j (by decide)]
    obtain ⟨a, b, c, d⟩ := gA (by omega)
    exact ⟨a, by rw [b]; omega, c⟩
  · rw [drop_j (by decide), drop_j (by decide), drop_j (by decide), drop_j (by decide), drop_j (by decide)]
    obtain ⟨a, b, c, d, e⟩ := gB (by omega)
    exact ⟨a, b, by omega, by omega, by omega⟩
  · rw [drop_j (by decide)]
    exact (gA (by omega)).2.2.2
  · rw [drop_j (by decide)]; exact g22
  · rw [drop_j (by decide)]; exact g23
  · rw [drop_j (by decide), drop_j (by decide)]
    exact ⟨(gA h9).2.2.2, (gA h9).1⟩
  · rw [drop_j (by decide), drop_j (by decide)]
    exact ⟨(gB h9).2.2.1, (gB h9).1⟩
  · unfold mMat
    rw [drop_j (by decide), mRcv_12, s12, show ((64 * (f : Int) + ((64 : Nat) : Int)).toNat + 56 - 0) / 64 = f + 1 from by omega]
    exact hc
  · rw [r0] at hi
    rw [rk 31 i (by decide) (by decide), rk 33 i (by decide) (by decide)] at hs
    rw [rk 35 i (by decide) (by decide), drop_k (by decide) (by decide), drop_k (by decide) (by decide), drop_k (by decide) (by decide), drop_k (by decide) (by decide)]
    obtain ⟨a, b, c⟩ := gP i hi h9 hs
    exact ⟨a, b, c, g42 i hi⟩
  · rw [s21] at hu
    by_cases h2 : f < 2
    · rw [if_pos h2]
      have := (gA h2).2.2.2
      have := h21 (by omega)
      omega
    · rw [if_neg h2]
      have := (gB (by omega)).2.2.1
      by_cases h4 : f < 3
      · have := h21 h4; omega
      · have := (h3 (by omega)).2.2.1; omega
