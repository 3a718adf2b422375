/-! ===== a new point ===== -/
def gNP (w c p t ph o : Int32) : Nat → Int32 := fun j => if j = 0 then w else if j = 1 then c else if j = 2 then p else if j = 3 then t else if j = 4 then ph else if j = 5 then o else 0
def aNP (A : Nat → Nat → Int32) (n : Nat) (w c p : Int) (t ph o : Nat) : Nat → Nat → Int32 := gr (gr (gu A 1 1 (nI (n + 1))) (33 + 2 * n) (gNP (zI w) (zI c) (zI p) (nI t) (nI ph) (nI o))) (33 + 2 * n + 1) (fun _ => 0)
def gNG (G : Nat → Nat → Int) (n : Nat) (w c p : Int) (t ph o : Nat) : Nat → Nat → Int := gu (gu (gu (gu (gu (gu (gu G 29 n w) 30 n c) 31 n p) 32 n ((t + 1 : Nat) : Int)) 33 n (ph : Int)) 34 n (o : Int)) 28 0 ((n : Int) + 1)
theorem gNG_k {G : Nat → Nat → Int} {n : Nat} {w c p : Int} {t ph o : Nat} {k j : Nat} (h1 : ¬ (k = 28 ∧ j = 0)) (h2 : k < 29 ∨ 34 < k ∨ j ≠ n) : gNG G n w c p t ph o k j = G k j := by
  unfold gNG
  simp only [gu_at]
  rw [if_neg h1, if_neg (by omega), if_neg (by omega), if_neg (by omega), if_neg (by omega), if_neg (by omega), if_neg (by omega)]
theorem gNG_n (G : Nat → Nat → Int) (n : Nat) (w c p : Int) (t ph o : Nat) : gNG G n w c p t ph o 29 n = w ∧ gNG G n w c p t ph o 30 n = c ∧ gNG G n w c p t ph o 31 n = p ∧ gNG G n w c p t ph o 32 n = ((t + 1 : Nat) : Int) ∧ gNG G n w c p t ph o 33 n = (ph : Int) ∧ gNG G n w c p t ph o 34 n = (o : Int) ∧ gNG G n w c p t ph o 28 0 = (n : Int) + 1 := by
  unfold gNG
  simp [gu_at]
theorem aNP_k {A : Nat → Nat → Int32} {n : Nat} {w c p : Int} {t ph o : Nat} {k : Nat} (h1 : k ≠ 1) (h2 : k ≠ 33 + 2 * n) (h3 : k ≠ 33 + 2 * n + 1) : aNP A n w c p t ph o k = A k := by
  unfold aNP
  rw [gr_ne _ _ h3, gr_ne _ _ h2, gu_ne _ _ _ h1]
theorem gNG_cov {G : Nat → Nat → Int} {n : Nat} {w c p : Int} {t ph o : Nat} {c9 b : Int} {j : Nat} (hj : j ≠ n) : mCov (gNG G n w c p t ph o) c9 b j ↔ mCov G c9 b j := by
  unfold mCov
  rw [gNG_k (k := 31) (by omega) (by omega), gNG_k (k := 33) (by omega) (by omega), gNG_k (k := 34) (by omega) (by omega), gNG_k (k := 29) (by omega) (by omega), gNG_k (k := 32) (by omega) (by omega)]
theorem gNG_covn {G : Nat → Nat → Int} {n : Nat} {w c p : Int} {t ph o : Nat} (ht : t ≤ 1) {c9 b : Int} : mCov (gNG G n w c p t ph o) c9 b n ↔ c9 % p = (ph : Int) ∧ (((o : Int) ≤ b ∧ b < (o : Int) + w) ∨ (t = 1 ∧ 24 + (o : Int) ≤ b ∧ b < 24 + (o : Int) + w)) := by
  obtain ⟨e1, e2, e3, e4, e5, e6, e7⟩ := gNG_n G n w c p t ph o
  unfold mCov
  rw [e1, e3, e4, e5, e6]
  constructor
  · rintro ⟨a, b | b⟩
    · exact ⟨a, Or.inl b⟩
    · exact ⟨a, Or.inr (by omega)⟩
  · rintro ⟨a, b | b⟩
    · exact ⟨a, Or.inl b⟩
    · exact ⟨a, Or.inr (by omega)⟩
theorem gNG_user {G : Nat → Nat → Int} {n : Nat} {w c p : Int} {t ph o : Nat} (c9 b : Int) : ∀ k, k ≤ n → mUser (gNG G n w c p t ph o) c9 b k = mUser G c9 b k := by
  intro k
  induction k with
  | zero => intro _; rfl
  | succ k ih =>
    intro hk
    have e := ih (by omega)
    by_cases hc : mCov G c9 b k
    · have hc2 := (gNG_cov (w := w) (c := c) (p := p) (t := t) (ph := ph) (o := o) (show k ≠ n by omega)).mpr hc
      show (if mCov (gNG G n w c p t ph o) c9 b k then (k : Int) else mUser (gNG G n w c p t ph o) c9 b k) = (if mCov G c9 b k then (k : Int) else mUser G c9 b k)
      rw [if_pos hc, if_pos hc2]
    · have hc2 : ¬ mCov (gNG G n w c p t ph o) c9 b k := fun z => hc ((gNG_cov (show k ≠ n by omega)).mp z)
      show (if mCov (gNG G n w c p t ph o) c9 b k then (k : Int) else mUser (gNG G n w c p t ph o) c9 b k) = (if mCov G c9 b k then (k : Int) else mUser G c9 b k)
      rw [if_neg hc, if_neg hc2, e]
theorem mod_4 {c p : Int} (hp : p = 1 ∨ p = 2 ∨ p = 4) : c % 4 % p = c % p := by rcases hp with rfl | rfl | rfl <;> omega
/-- where a place is free no point is -/
theorem free_cov {G : Nat → Nat → Int} {o w ph p : Int} {t : Nat} (hT : TsOk G) (hp : p = 1 ∨ p = 2 ∨ p = 4) (hph : 0 ≤ ph ∧ ph < p) (hf : mFree G o w ph p ((t : Int) + 1)) {c b : Int} {j : Nat} (hj : (j : Int) < G 28 0) (hc : c % p = ph) (hb : (o ≤ b ∧ b < o + w) ∨ (t = 1 ∧ 24 + o ≤ b ∧ b < 24 + o + w)) : ¬ mCov G c b j := by
  intro hv
  have hv4 : mCov G (c % 4) b j := by
    have hTj := hT.2.2 j hj
    refine ⟨?_, hv.2⟩
    rw [mod_4 (by omega)]
    exact hv.1
  have hc4 : c % 4 % p = ph := by rw [mod_4 hp]; exact hc
  have h0 : 0 ≤ c % 4 ∧ c % 4 < 4 := by omega
  have h1 : ph ≤ c % 4 ∧ (c % 4 - ph) % p = 0 := by
    generalize c % 4 = d at *
    rcases hp with rfl | rfl | rfl <;> omega
  have hu := mUser_some hv4 (m := (G 28 0).toNat) (by omega)
  rcases hb with hb | hb
  · have h2 := (hf (c % 4) h1.1 h0.2 h1.2 (b - o).toNat (by omega)).1
    rw [show o + ((b - o).toNat : Int) = b from by omega] at h2
    exact hu h2
  · have h2 := (hf (c % 4) h1.1 h0.2 h1.2 (b - 24 - o).toNat (by omega)).2
    rcases h2 with h2 | h2
    · omega
    · rw [show 24 + o + ((b - 24 - o).toNat : Int) = b from by omega] at h2
      exact hu h2
theorem CAll.add {n : Nat} {A : Nat → Nat → Int32} {J : Nat → Nat → Int64} {G : Nat → Nat → Int} (h : CAll n A J G) (hn12 : n < 12) (hs0 : G 28 9 = 0) {w c p : Int} {t ph o : Nat} (hg : mGood w c p t) (ht : t ≤ 1) (hph : (ph : Int) < p) (hlim : (o : Int) + w ≤ mLim ((t : Int) + 1)) (hfree : mFree G (o : Int) w (ph : Int) p ((t : Int) + 1)) :
    CAll (n + 1) (aNP A n w c p t ph o) (gUse J (gBt o w.toNat t) p (ph : Int) 4) (gNG G n w c p t ph o) := by
  obtain ⟨hct, hn, hT, hFs, hpr, hz, hU, hD, hso, hse, hli, hsy, hde, hcd, hok, hdv, hdr, hsn, hol, hln⟩ := h
  obtain ⟨g1, g2, g3, g4⟩ := hg
  have hw : 1 ≤ w ∧ w ≤ 12 := by omega
  have hp : p = 1 ∨ p = 2 ∨ p = 4 := by omega
  have hlm : (t = 0 ∧ (o : Int) + w ≤ 48) ∨ (t = 1 ∧ (o : Int) + w ≤ 24) := by
    unfold mLim at hlim
    by_cases h9 : t = 0
    · subst h9
      left
      rw [if_neg (by decide)] at hlim
      exact ⟨rfl, hlim⟩
    · have h8 : t = 1 := by omega
      subst h8
      right
      rw [if_pos (by decide)] at hlim
      exact ⟨rfl, hlim⟩
  obtain ⟨e1, e2, e3, e4, e5, e6, e7⟩ := gNG_n G n w c p t ph o
  have hta := hok.2.2.1
  have hnr := hok.2.2.2.2.1
  have hsa := hok.2.2.2.2.2
  have h41 : ∀ i, G 41 i = 0 ∧ G 42 i = 0 := fun i => by have := hsa i; omega
  have hT2 : TsOk (gNG G n w c p t ph o) := by
    refine ⟨by rw [e7]; omega, by rw [e7]; omega, fun i hi => ?_⟩
    rw [e7] at hi
    by_cases hin : i = n
    · subst hin
      unfold TOk
      rw [e1, e2, e3, e4, e5, e6]
      refine ⟨by omega, by omega, by omega, by omega, by omega, hp, by omega, by omega, by omega, by omega, by omega, by omega⟩
    · have hTi := hT.2.2 i (by omega)
      unfold TOk at *
      rw [gNG_k (k := 29) (by omega) (by omega), gNG_k (k := 30) (by omega) (by omega), gNG_k (k := 31) (by omega) (by omega), gNG_k (k := 32) (by omega) (by omega), gNG_k (k := 33) (by omega) (by omega), gNG_k (k := 34) (by omega) (by omega)]
      exact hTi
  have hA : ∀ k, k < 33 → k ≠ 1 → aNP A n w c p t ph o k = A k := fun k a b => aNP_k b (by omega) (by omega)
  have hJ : ∀ k, k ≠ 3 → gUse J (gBt o w.toNat t) p (ph : Int) 4 k = J k := fun k a => by unfold gUse; rw [gr_ne _ _ a]
  refine ⟨⟨?_, by omega⟩, by rw [e7]; omega, hT2, fun i hi => ?_, fun i hi => ?_, fun i hi => ?_, fun r hr i => ?_, fun c9 b i j hi hj ci cj => ?_, fun j => by rw [gNG_k (by omega) (by omega)]; exact hso j, ⟨?_, fun z => ?_⟩, ?_, hsy.to (hA 7 (by omega) (by omega)) (hA 8 (by omega) (by omega)) (by rw [hJ 7 (by omega)]) (fun j => gNG_k (by omega) (by omega)) (fun j _ _ => gNG_k (by omega) (by omega)), hde.to (hA 9 (by omega) (by omega)) (fun j _ _ => gNG_k (by omega) (by omega)), hcd.to (fun i hi => hA _ (by omega) (by omega)) (fun k j _ _ => gNG_k (by omega) (by omega)), hok.to hT2 (fun j => gNG_k (by omega) (by omega)) (fun j _ _ => gNG_k (by omega) (by omega)) (fun j => gNG_k (by omega) (by omega)) (fun j => gNG_k (by omega) (by omega)), hdv.to (fun k j _ _ => gNG_k (by omega) (by omega)), hdr.to (fun j => gNG_k (by omega) (by omega)) (fun j => gNG_k (by omega) (by omega)) (fun k j _ _ => gNG_k (by omega) (by omega)), by rw [gNG_k (by omega) (by omega)]; exact hsn, by rw [gNG_k (j := 10) (by omega) (by omega), gNG_k (j := 12) (by omega) (by omega), gNG_k (j := 9) (by omega) (by omega)]; exact hol, fun j => by rw [gNG_k (by omega) (by omega)]; exact hln j⟩
  · unfold aNP
    rw [gr_ne _ _ (by omega), gr_ne _ _ (by omega), gu_at, if_pos ⟨rfl, rfl⟩]
  · by_cases hin : i = n
    · subst hin
      have a1 : aNP A i w c p t ph o (33 + 2 * i) = gNP (zI w) (zI c) (zI p) (nI t) (nI ph) (nI o) := by
        unfold aNP
        rw [gr_ne _ _ (by omega), gr_self]
      have a2 : aNP A i w c p t ph o (33 + 2 * i + 1) = fun _ => 0 := by
        unfold aNP
        rw [gr_self]
      unfold PtF PtR
      rw [a1, a2, e1, e2, e3, e4, e5, e6, gNG_k (k := 35) (by omega) (by omega), gNG_k (k := 41) (by omega) (by omega), gNG_k (k := 42) (by omega) (by omega), hz i (Nat.le_refl _), (h41 i).1, (h41 i).2]
      refine ⟨⟨rfl, rfl, rfl, ?_, rfl, rfl⟩, rfl, rfl, rfl, fun _ => rfl, fun z => absurd rfl z⟩
      show nI t = zI (((t + 1 : Nat) : Int) - 1)
      rw [show ((t + 1 : Nat) : Int) - 1 = (t : Int) from by omega]
      rfl
    · exact (hFs i (by omega)).to (aNP_k (by omega) (by omega) (by omega)) (aNP_k (by omega) (by omega) (by omega)) (fun k _ _ _ _ _ => gNG_k (by omega) (by omega))
  · rw [e7] at hi
    by_cases hin : i = n
    · subst hin
      rw [e1, e2, gNG_k (k := 35) (by omega) (by omega), hz i (Nat.le_refl _)]
      have h1 := gLo_range (cv := c) hw.1 hw.2
      have h2 := gHi_range (cv := c) hw.1 hw.2
      omega
    · rw [gNG_k (k := 30) (by omega) (by omega), gNG_k (k := 29) (by omega) (by omega), gNG_k (k := 35) (by omega) (by omega)]
      exact hpr i (by omega)
  · rw [gNG_k (by omega) (by omega)]; exact hz i (by omega)
  · rw [gUse_at, e7, show ((n : Int) + 1).toNat = n + 1 from by omega]
    have hnn : (G 28 0).toNat = n := by omega
    have hu := hU r hr i
    rw [hnn] at hu
    have hcv := gNG_covn (G := G) (n := n) (w := w) (c := c) (p := p) (ph := ph) (o := o) ht (c9 := (r : Int)) (b := (i : Int))
    have hus : mUser (gNG G n w c p t ph o) (r : Int) (i : Int) (n + 1) = if mCov (gNG G n w c p t ph o) (r : Int) (i : Int) n then (n : Int) else mUser G (r : Int) (i : Int) n := by
      rw [← gNG_user (w := w) (c := c) (p := p) (t := t) (ph := ph) (o := o) (r : Int) (i : Int) n (Nat.le_refl _)]
      rfl
    rw [hus]
    have hbt := tb_bt (o := o) (w := w.toNat) (t := t) (by omega) (by omega) (by omega) i
    by_cases hrp : (r : Int) % p = (ph : Int)
    · rw [if_pos ⟨hr, hrp⟩, ln_or, Nat.testBit_or, Bool.or_eq_true, hu, hbt]
      by_cases hc : mCov (gNG G n w c p t ph o) (r : Int) (i : Int) n
      · rw [if_pos hc]
        have hc2 := hcv.mp hc
        omega
      · rw [if_neg hc]
        have hc2 : ¬ (((o : Int) ≤ (i : Int) ∧ (i : Int) < (o : Int) + w) ∨ (t = 1 ∧ 24 + (o : Int) ≤ (i : Int) ∧ (i : Int) < 24 + (o : Int) + w)) := fun z => hc (hcv.mpr ⟨hrp, z⟩)
        omega
    · rw [if_neg (fun z => hrp z.2), hu]
      have hc : ¬ mCov (gNG G n w c p t ph o) (r : Int) (i : Int) n := fun z => hrp (hcv.mp z).1
      rw [if_neg hc]
  · rw [e7] at hi hj
    by_cases hin : i = n
    · by_cases hjn : j = n
      · omega
      · subst hin
        exfalso
        have a := (gNG_covn ht).mp ci
        exact free_cov hT hp ⟨by omega, hph⟩ hfree (by omega) a.1 a.2 ((gNG_cov hjn).mp cj)
    · by_cases hjn : j = n
      · subst hjn
        exfalso
        have a := (gNG_covn ht).mp cj
        exact free_cov hT hp ⟨by omega, hph⟩ hfree (by omega) a.1 a.2 ((gNG_cov hin).mp ci)
      · exact hD c9 b i j (by omega) (by omega) ((gNG_cov hin).mp ci) ((gNG_cov hjn).mp cj)
  · rw [hA 6 (by omega) (by omega), gNG_k (by omega) (by omega)]; exact hse.1
  · exfalso
    rw [gNG_k (by omega) (by omega), hs0] at z
    exact z rfl
  · rw [gNG_k (k := 28) (by omega) (by omega)]
    exact hli.to (hA 4 (by omega) (by omega)) (hA 5 (by omega) (by omega)) (gNG_k (by omega) (by omega)) (fun j => gNG_k (by omega) (by omega))
/-- the world with one point more -/
theorem gC_grow {cy : Nat → ClassId} {ad ad1 : Nat → Nat} {n : Nat} (had : ∀ k, k < 33 + 2 * n → ad1 k = ad k) {k : Nat} (hk : k < 33 + 2 * n) (hk2 : k ≠ 2) (a : Nat → Int32) (j : Nat → Int64) : gC cy ad1 (n + 1) k a j = gC cy ad n k a j := by
  have e : ∀ q, q < 33 → ad1 q = ad q := fun q hq => had q (by omega)
  unfold gC
  by_cases h1 : k < 12
  · rw [if_pos h1, if_pos h1]
    have h9 : k = 0 ∨ k = 1 ∨ k = 3 ∨ k = 4 ∨ k = 5 ∨ k = 6 ∨ k = 7 ∨ k = 8 ∨ k = 9 ∨ k = 10 ∨ k = 11 := by omega
    rcases h9 with rfl | rfl | rfl | rfl | rfl | rfl | rfl | rfl | rfl | rfl | rfl
    · show (Sum.inr (9, [.ref (ad1 1), .ref (ad1 4), .ref (ad1 6), .ref (ad1 7), .ref (ad1 9), .ref (ad1 10)]) : va_E) = _
      rw [e 1 (by omega), e 4 (by omega), e 6 (by omega), e 7 (by omega), e 9 (by omega), e 10 (by omega)]
      rfl
    · show (Sum.inr (5, [.ref (ad1 2), .int (a 1), .ref (ad1 3)]) : va_E) = _
      rw [e 2 (by omega), e 3 (by omega)]
      rfl
    · rfl
    · show (Sum.inr (3, [.ref (ad1 5), .int (a 1), .int (a 2)]) : va_E) = _
      rw [e 5 (by omega)]
      rfl
    · rfl
    · rfl
    · show (Sum.inr (8, [.int (a 0), .int (a 1), .long (j 2), .int (a 3), .int (a 4), .int (a 5), .ref (ad1 8)]) : va_E) = _
      rw [e 8 (by omega)]
      rfl
    · rfl
    · rfl
    · show (Sum.inr (2, [.ref (ad1 11)]) : va_E) = _
      rw [e 11 (by omega)]
      rfl
    · show (Sum.inl (cy 3, 8, .inr (.inr (.inr (.inr (fun i => if i < 8 then some (ad1 (12 + 2 * i)) else none))))) : va_E) = Sum.inl (cy 3, 8, .inr (.inr (.inr (.inr (fun i => if i < 8 then some (ad (12 + 2 * i)) else none)))))
      have hf : (fun i => if i < 8 then some (ad1 (12 + 2 * i)) else none) = (fun i => if i < 8 then some (ad (12 + 2 * i)) else none) := by
        funext i
        by_cases hi : i < 8
        · rw [if_pos hi, if_pos hi, e _ (by omega)]
        · rw [if_neg hi, if_neg hi]
      rw [hf]
  · rw [if_neg h1, if_neg h1]
    by_cases h2 : k < 28
    · rw [if_pos h2, if_pos h2]
      by_cases h3 : k % 2 = 0
      · rw [if_pos h3, if_pos h3]
        unfold gDv
        rw [e _ (by omega)]
      · rw [if_neg h3, if_neg h3]
    · rw [if_neg h2, if_neg h2]
      by_cases h3 : k < 33
      · rw [if_pos h3, if_pos h3]
      · rw [if_neg h3, if_neg h3]
        by_cases h4 : k % 2 = 1
        · rw [if_pos h4, if_pos h4]
          unfold gPt
          rw [had _ (by omega)]
        · rw [if_neg h4, if_neg h4]
theorem gw_grow {cy : Nat → ClassId} {ad ad1 : Nat → Nat} {n : Nat} {A : Nat → Nat → Int32} {J : Nat → Nat → Int64} {w1 : Nat → va_E} {w c p : Int} {t ph o : Nat} (had : ∀ k, k < 33 + 2 * n → ad1 k = ad k) (h : ∀ k, k < 33 + 2 * n → k ≠ 1 → k ≠ 2 → w1 k = gw cy ad n A J k) (h1 : w1 1 = .inr (5, [.ref (ad 2), .int (nI (n + 1)), .ref (ad 3)]))
    (h2 : w1 2 = .inl (cy 4, 12, .inr (.inr (.inr (.inr (fun i => if i < n + 1 then some (ad1 (33 + 2 * i)) else none)))))) (hp : w1 (33 + 2 * n) = .inr (4, [.int (zI w), .int (zI c), .int (zI p), .int (nI t), .int (nI ph), .int (nI o), .int 0, .ref (ad1 (33 + 2 * n + 1)), .int 0, .int 0])) (hr : w1 (33 + 2 * n + 1) = .inr (6, [.int 0, .int 0, .int 0])) :
    ∀ k, k < 33 + 2 * n + 1 + 1 → w1 k = gw cy ad1 (n + 1) (aNP A n w c p t ph o) J k := by
  intro k hk
  by_cases k1 : k = 1
  · subst k1
    rw [h1]
    show _ = (Sum.inr (5, [.ref (ad1 2), .int (aNP A n w c p t ph o 1 1), .ref (ad1 3)]) : va_E)
    have e : aNP A n w c p t ph o 1 1 = nI (n + 1) := by
      unfold aNP
      rw [gr_ne _ _ (by omega), gr_ne _ _ (by omega), gu_at, if_pos ⟨rfl, rfl⟩]
    rw [e, had 2 (by omega), had 3 (by omega)]
  · by_cases k2 : k = 2
    · subst k2
      rw [h2]
      rfl
    · by_cases k3 : k = 33 + 2 * n
      · subst k3
        rw [hp, gw_pt]
        have a1 : aNP A n w c p t ph o (33 + 2 * n) = gNP (zI w) (zI c) (zI p) (nI t) (nI ph) (nI o) := by
          unfold aNP
          rw [gr_ne _ _ (by omega), gr_self]
        rw [a1]
        rfl
      · by_cases k4 : k = 33 + 2 * n + 1
        · subst k4
          rw [hr, gw_rp]
          have a2 : aNP A n w c p t ph o (33 + 2 * n + 1) = fun _ => 0 := by
            unfold aNP
            rw [gr_self]
          rw [a2]
          rfl
        · rw [h k (by omega) k1 k2]
          unfold gw
          rw [gC_grow had (by omega) k2, aNP_k k1 k3 k4]
