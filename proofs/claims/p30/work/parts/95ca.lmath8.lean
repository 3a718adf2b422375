/-! ===== whole frames: what is sent is what is read ===== -/
theorem tb_kn (k m : Nat) : tb (k : Int) (m : Int) = ((k / 2 ^ m % 2 : Nat) : Int) := by
  unfold tb
  rw [Int.toNat_natCast, Int.natCast_emod, Int.natCast_ediv, Int.natCast_pow]
  rfl
theorem div_step (k m : Nat) : k / 2 ^ m = 2 * (k / 2 ^ (m + 1)) + k / 2 ^ m % 2 := by
  rw [Nat.pow_succ, ← Nat.div_div_eq_div_mul]
  omega
theorem mBits_of {X : Nat → Nat → Int} {fr : Int} {k w : Nat} (hk : k < 2 ^ w) (h : ∀ r : Nat, r < w → X 38 (fr + (r : Int)).toNat = tb (k : Int) ((w : Int) - 1 - (r : Int))) : mBits X fr w = (k : Int) := by
  have key : ∀ q, q ≤ w → mBits X fr q = ((k / 2 ^ (w - q) : Nat) : Int) := by
    intro q
    induction q with
    | zero =>
      intro _
      rw [Nat.sub_zero, Nat.div_eq_of_lt hk]
      rfl
    | succ q ih =>
      intro hq
      show 2 * mBits X fr q + X 38 (fr + (q : Int)).toNat = _
      rw [ih (by omega), h q (by omega), show (w : Int) - 1 - (q : Int) = ((w - (q + 1) : Nat) : Int) from by omega, tb_kn]
      have := div_step k (w - (q + 1))
      rw [show w - (q + 1) + 1 = w - q from by omega] at this
      omega
  have := key w (Nat.le_refl _)
  rw [Nat.sub_self, Nat.pow_zero, Nat.div_one] at this
  exact this
theorem gDec_gEnc {cv w v : Int} (hcv : 0 ≤ cv ∧ cv ≤ 3) (h : 1 ≤ w) (h2 : w ≤ 12) (hv : gLo cv w ≤ v ∧ v ≤ gHi cv w) : gDec cv w (gEnc cv w v) = v := by
  have hh := gHf_range h h2
  unfold gLo gHi at hv
  unfold gDec gEnc
  generalize gHf w = s at *
  rcases (by omega : cv = 0 ∨ cv = 1 ∨ cv = 2 ∨ cv = 3) with z | z | z | z <;> subst z
  · simp
  · simp at hv ⊢
    (repeat' split) <;> omega
  · simp at hv ⊢
    (repeat' split) <;> omega
  · simp
theorem mUser_eq {G G' : Nat → Nat → Int} (h : ∀ k j, 29 ≤ k → k ≤ 34 → G' k j = G k j) (c b : Int) (k : Nat) : mUser G' c b k = mUser G c b k := by
  induction k with
  | zero => rfl
  | succ k ih => simp only [mUser, mCov, ih, h 29 k (by omega) (by omega), h 31 k (by omega) (by omega), h 32 k (by omega) (by omega), h 33 k (by omega) (by omega), h 34 k (by omega) (by omega)]
theorem snd_ctr {G : Nat → Nat → Int} {f : Nat} (h9 : G 28 9 = 8 * (f : Int)) (hf : f < 256) {q : Nat} (hq : q < 8) : mCtr (mSend G q) = (f : Int) ∧ mWd (mSend G q) = (q : Int) := by
  unfold mCtr mWd
  rw [mSend_9, h9]
  omega
theorem mSW_37 (G : Nat → Nat → Int) (j : Nat) : mSW G 37 j = if G 28 10 ≤ (j : Int) ∧ (j : Int) < G 28 10 + 8 then mBit (mSW1 G) (mCtr G) (8 * mWd G + ((j : Int) - G 28 10)) else G 37 j := by
  unfold mSW mSW2
  rw [gu_ne _ _ _ (by decide), gu_ne _ _ _ (by decide), gr_self]
  rfl
theorem snd_36 {G : Nat → Nat → Int} {f : Nat} (hT : TsOk G) (h9 : G 28 9 = 8 * (f : Int)) (hf : f < 256) {j : Nat} (hj : (j : Int) < 2 * G 28 0) (hs1 : ((j % 2 : Nat) : Int) < G 32 (j / 2)) (hs2 : (f : Int) % G 31 (j / 2) = G 33 (j / 2)) (q : Nat) (hq : q ≤ 8) (hlt : sAt G j / 8 < (q : Int)) : mSend G q 36 j = gEnc (G 30 (j / 2)) (G 29 (j / 2)) (G 35 (j / 2)) := by
  induction q with
  | zero =>
    have hTj := hT.2.2 (j / 2) (by omega)
    exfalso
    unfold sAt at hlt
    omega
  | succ q ih =>
    obtain ⟨e1, e2⟩ := snd_ctr h9 hf (q := q) (by omega)
    show mSW (mSend G q) 36 j = _
    rw [mSW_36, mSend_0, e1, e2]
    have g : ∀ k, k ≠ 36 → k ≠ 37 → k ≠ 28 → mSend G q k (j / 2) = G k (j / 2) := fun k z1 z2 z3 => mSend_k G q z1 z2 (fun z => z3 z.1)
    unfold mSnd sndC
    rw [g 32 (by decide) (by decide) (by decide), g 31 (by decide) (by decide) (by decide), g 33 (by decide) (by decide) (by decide), g 34 (by decide) (by decide) (by decide), g 30 (by decide) (by decide) (by decide), g 29 (by decide) (by decide) (by decide), g 35 (by decide) (by decide) (by decide)]
    by_cases hw : sAt G j / 8 = (q : Int)
    · rw [if_pos ⟨by omega, hs1, hs2, hw⟩]
    · rw [if_neg (fun z => hw z.2.2.2)]
      exact ih (by omega) (by omega)
theorem snd_37 {G : Nat → Nat → Int} {f : Nat} (h9 : G 28 9 = 8 * (f : Int)) (h10 : G 28 10 = 0) (hf : f < 256) (q : Nat) (hq : q ≤ 8) {b : Nat} (hb : b < 8 * q) : mSend G q 37 b = mBit (mSW1 (mSend G (b / 8))) (f : Int) (b : Int) := by
  induction q with
  | zero => omega
  | succ q ih =>
    obtain ⟨e1, e2⟩ := snd_ctr h9 hf (q := q) (by omega)
    show mSW (mSend G q) 37 b = _
    rw [mSW_37, mSend_10, h10, e1, e2]
    by_cases h : 8 * q ≤ b
    · rw [if_pos (by omega), show b / 8 = q from by omega]
      congr 1
      omega
    · rw [if_neg (by omega)]
      exact ih (by omega) (by omega)
theorem snd_sync {G : Nat → Nat → Int} {f : Nat} (h9 : G 28 9 = 8 * (f : Int)) (h10 : G 28 10 = 0) (hf : f < 256) {b : Nat} (hb : b < 8) : mSend G 8 37 b = tb 184 (7 - (b : Int)) := by
  rw [snd_37 h9 h10 hf 8 (by omega) (by omega)]
  unfold mBit
  rw [if_pos (by omega)]
theorem snd_cnt {G : Nat → Nat → Int} {f : Nat} (h9 : G 28 9 = 8 * (f : Int)) (h10 : G 28 10 = 0) (hf : f < 256) {b : Nat} (h8 : 8 ≤ b) (hb : b < 16) : mSend G 8 37 b = tb (f : Int) (15 - (b : Int)) := by
  rw [snd_37 h9 h10 hf 8 (by omega) (by omega)]
  unfold mBit
  rw [if_neg (by omega), if_pos (by omega)]
theorem snd_dat {G : Nat → Nat → Int} {f : Nat} (hT : TsOk G) (hD : mDisj G) (h9 : G 28 9 = 8 * (f : Int)) (h10 : G 28 10 = 0) (hf : f < 256) {i e r : Nat} (hi : (i : Int) < G 28 0) (he : (e : Int) < G 32 i) (hs : (f : Int) % G 31 i = G 33 i) (hr : (r : Int) < G 29 i) : mSend G 8 37 (mAt G i (e : Int) + (r : Int)).toNat = tb (gEnc (G 30 i) (G 29 i) (G 35 i)) (G 29 i - 1 - (r : Int)) := by
  have hTi := hT.2.2 i hi
  obtain ⟨t1, t2, t3, t4, t5, t6, t7, t8, t9, t10, t11, t12⟩ := hTi
  obtain ⟨b, hb⟩ : ∃ b : Nat, (mAt G i (e : Int) + (r : Int)).toNat = b := ⟨_, rfl⟩
  have hb2 : (b : Int) = 16 + G 34 i + 24 * (e : Int) + (r : Int) := by unfold mAt at hb; omega
  have he2 : e = 0 ∨ (e = 1 ∧ G 32 i = 2) := by omega
  have hb64 : b < 64 := by
    rcases he2 with z | ⟨z, z2⟩
    · subst z; omega
    · subst z; have := t12 z2; omega
  rw [hb, snd_37 h9 h10 hf 8 (by omega) (by omega)]
  obtain ⟨Y, hY⟩ : ∃ Y, mSend G (b / 8) = Y := ⟨_, rfl⟩
  have gY : ∀ k j, k ≠ 36 → k ≠ 37 → k ≠ 28 → Y k j = G k j := fun k j z1 z2 z3 => by rw [← hY]; exact mSend_k G _ z1 z2 (fun z => z3 z.1)
  have gY0 : Y 28 0 = G 28 0 := by rw [← hY]; exact mSend_0 G _
  have hcov : mCov G (f : Int) ((b : Int) - 16) i := by
    refine ⟨hs, ?_⟩
    rcases he2 with z | ⟨z, z2⟩
    · subst z; exact Or.inl ⟨by omega, by omega⟩
    · subst z; exact Or.inr ⟨z2, by omega, by omega⟩
  have hu : mUser Y (f : Int) ((b : Int) - 16) (Y 28 0).toNat = (i : Int) := by
    rw [mUser_eq (fun k j a c => gY k j (by omega) (by omega) (by omega)), gY0]
    have h1 := mUser_some hcov (m := (G 28 0).toNat) (by omega)
    have h2 := mUser_range G (f : Int) ((b : Int) - 16) (G 28 0).toNat
    obtain ⟨u, hu⟩ : ∃ u : Nat, mUser G (f : Int) ((b : Int) - 16) (G 28 0).toNat = (u : Int) := ⟨(mUser G (f : Int) ((b : Int) - 16) (G 28 0).toNat).toNat, by omega⟩
    have h3 := mUser_cov hu
    rw [hu, hD (f : Int) ((b : Int) - 16) u i (by omega) hi h3.2 hcov]
  have hg : e = if Y 32 i = 2 ∧ 24 ≤ (b : Int) - 16 then 1 else 0 := by
    rw [gY 32 i (by decide) (by decide) (by decide)]
    rcases he2 with z | ⟨z, z2⟩
    · subst z
      rw [if_neg (fun z => by have := t12 z.1; omega)]
    · subst z
      rw [if_pos ⟨z2, by omega⟩]
  rw [hY, ← mBit_u (G := Y) (by omega) hu hg, gY 29 i (by decide) (by decide) (by decide), gY 34 i (by decide) (by decide) (by decide)]
  have h36 : mSW1 Y 36 (2 * i + e) = gEnc (G 30 i) (G 29 i) (G 35 i) := by
    have h5 : mSW1 Y 36 (2 * i + e) = mSend G (b / 8 + 1) 36 (2 * i + e) := by
      show _ = mSW (mSend G (b / 8)) 36 (2 * i + e)
      rw [hY, mSW_36]
      unfold mSW1
      rw [gr_self]
    have d1 : (2 * i + e) / 2 = i := by omega
    have d2 : (2 * i + e) % 2 = e := by omega
    rw [h5, snd_36 hT h9 hf (by omega) (by rw [d1, d2]; exact he) (by rw [d1]; exact hs) (b / 8 + 1) (by omega) (by unfold sAt; rw [d1, d2]; omega), d1]
  rw [h36]
  congr 1
  omega
/-! ===== what is taken ===== -/
theorem take_38 (G : Nat → Nat → Int) (b : Int) (j : Nat) : mTake G b 38 j = mT1 G b 38 j := by
  unfold mTake
  (repeat' split)
  · rw [gu_ne _ _ _ (by decide), gu_ne _ _ _ (by decide), gu_ne _ _ _ (by decide), gu_ne _ _ _ (by decide)]
  · rfl
  · rw [mCmp_k _ (by omega), gu_ne _ _ _ (by decide)]
  · unfold mDecT
    split
    · rw [gu_ne _ _ _ (by decide)]
    · rw [mDecG_k _ (by omega) (by omega)]
  · rfl
theorem rcv_38 {G : Nat → Nat → Int} (hT : 0 ≤ G 28 12) (q j : Nat) : mRcv G q 38 j = if (G 28 12).toNat ≤ j ∧ j < (G 28 12).toNat + q then G 37 (j - (G 28 12).toNat) else G 38 j := by
  induction q with
  | zero => rw [if_neg (by omega)]; rfl
  | succ q ih =>
    show mTake (mRcv G q) (G 37 q) 38 j = _
    rw [take_38]
    unfold mT1
    rw [gu_ne _ _ _ (by decide), gu_at, mRcv_12, ih]
    by_cases h : j = (G 28 12).toNat + q
    · rw [if_pos ⟨rfl, by omega⟩, if_pos (by omega), h]
      congr 1
      omega
    · rw [if_neg (fun z => h (by omega))]
      by_cases h2 : (G 28 12).toNat ≤ j ∧ j < (G 28 12).toNat + q
      · rw [if_pos h2, if_pos (by omega)]
      · rw [if_neg h2, if_neg (by omega)]
theorem take_quiet {G : Nat → Nat → Int} {b : Int} (h14 : G 28 14 ≠ 0) (h72 : G 28 12 + 1 - G 28 15 ≠ 72) (h64 : ¬ (G 28 12 + 1 - G 28 15 = 64 ∧ G 28 18 ≠ 0)) : mTake G b = mT1 G b := by
  unfold mTake
  rw [if_neg h14, if_neg h72, if_neg h64]
theorem rcv_quiet {G : Nat → Nat → Int} (a : Nat) (h14 : mRcv G a 28 14 ≠ 0) (q : Nat) (h : ∀ r : Nat, r < q → G 28 12 + (a : Int) + (r : Int) + 1 - mRcv G a 28 15 ≠ 72 ∧ ¬ (G 28 12 + (a : Int) + (r : Int) + 1 - mRcv G a 28 15 = 64 ∧ mRcv G a 28 18 ≠ 0)) {k j : Nat} (h1 : k ≠ 38) (h2 : ¬ (k = 28 ∧ j = 12)) : mRcv G (a + q) k j = mRcv G a k j := by
  induction q generalizing k j with
  | zero => rfl
  | succ q ih =>
    have ih2 := fun {k j : Nat} (z1 : k ≠ 38) (z2 : ¬ (k = 28 ∧ j = 12)) => ih (fun r hr => h r (by omega)) (k := k) (j := j) z1 z2
    have hq := h q (by omega)
    show mTake (mRcv G (a + q)) (G 37 (a + q)) k j = _
    rw [take_quiet (by rw [ih2 (by decide) (by decide)]; exact h14) (by rw [mRcv_12, ih2 (k := 28) (j := 15) (by decide) (by decide)]; push_cast; omega) (by rw [mRcv_12, ih2 (k := 28) (j := 15) (by decide) (by decide), ih2 (k := 28) (j := 18) (by decide) (by decide)]; push_cast; omega), mT1_k _ _ (by omega) h2]
    exact ih2 h1 h2
theorem rcv_search {G : Nat → Nat → Int} (h14 : G 28 14 = 0) (h12 : G 28 12 = 0) (q : Nat) (hq : q ≤ 7) {k j : Nat} (h1 : k ≠ 38) (h2 : ¬ (k = 28 ∧ j = 12)) : mRcv G q k j = G k j := by
  induction q generalizing k j with
  | zero => rfl
  | succ q ih =>
    have ih2 := fun {k j : Nat} (z1 : k ≠ 38) (z2 : ¬ (k = 28 ∧ j = 12)) => ih (by omega) (k := k) (j := j) z1 z2
    show mTake (mRcv G q) (G 37 q) k j = _
    have e : mTake (mRcv G q) (G 37 q) = mT1 (mRcv G q) (G 37 q) := by
      unfold mTake
      rw [if_pos (by rw [ih2 (by decide) (by decide)]; exact h14), if_neg (fun z => by rw [mRcv_12, h12] at z; omega)]
    rw [e, mT1_k _ _ (by omega) h2]
    exact ih2 h1 h2
theorem wrong_0 {X : Nat → Nat → Int} (h : ∀ q : Nat, q < 8 → X 38 (X 28 15 + (q : Int)).toNat = tb 184 (7 - (q : Int))) : mWrong X 8 = 0 := by
  have key : ∀ q, q ≤ 8 → mWrong X q = 0 := by
    intro q
    induction q with
    | zero => intro _; rfl
    | succ q ih =>
      intro hq
      show mWrong X q + _ = 0
      rw [ih (by omega), if_pos (h q (by omega))]
      rfl
  exact key 8 (Nat.le_refl _)
