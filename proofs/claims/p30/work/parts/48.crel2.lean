theorem PtR_give {A : Nat → Nat → Int32} {G : Nat → Nat → Int} {c : Int} {p e i : Nat} (h : PtR A (mGive G c p e) i) : PtR A G i := by
  unfold PtR at *
  rw [mGive_k G c p e (k := 29) (by decide) (by decide) (by decide), mGive_k G c p e (k := 30) (by decide) (by decide) (by decide), mGive_k G c p e (k := 31) (by decide) (by decide) (by decide), mGive_k G c p e (k := 32) (by decide) (by decide) (by decide), mGive_k G c p e (k := 33) (by decide) (by decide) (by decide), mGive_k G c p e (k := 34) (by decide) (by decide) (by decide)] at h
  exact h
theorem mGive_ne (G : Nat → Nat → Int) (c : Int) {p e i : Nat} (h : i ≠ p) (k : Nat) : mGive G c p e k i = mGive G c p 0 k i := by
  simp only [mGive, gr_at, h, false_and, if_false]
theorem Give_y {A A1 : Nat → Nat → Int32} {G : Nat → Nat → Int} {c : Int} {p n : Nat} (h : ∀ i : Nat, i < n → PtF A (mGive G c p 0) i) (hs : c % G 31 p = G 33 p) (h32 : G 32 p = 1 ∨ G 32 p = 2) (h1 : PtF A1 (mGive G c p (G 32 p).toNat) p) (hO : POnly A A1 p) : ∀ i : Nat, i < n → PtF A1 (mGive G c (p + 1) 0) i := by
  have e := mGive_p (G := G) (c := c) (p := p) (e := (G 32 p).toNat) (Or.inl ⟨hs, by omega, by omega⟩)
  intro i hi
  by_cases q : i = p
  · subst q
    exact h1.to rfl rfl (fun k _ _ _ _ _ => (e k i).symm)
  · refine (h i hi).to (hO _ (by omega) (by omega)) (hO _ (by omega) (by omega)) (fun k _ _ _ _ _ => ?_)
    rw [← e k i, mGive_ne G c q]
theorem Give_n {A : Nat → Nat → Int32} {G : Nat → Nat → Int} {c : Int} {p n : Nat} (h : ∀ i : Nat, i < n → PtF A (mGive G c p 0) i) (hs : ¬ c % G 31 p = G 33 p) : ∀ i : Nat, i < n → PtF A (mGive G c (p + 1) 0) i := fun i hi => (h i hi).to rfl rfl (fun k _ _ _ _ _ => (mGive_p (Or.inr ⟨hs, rfl⟩) k i).symm)
theorem Give_0 {A : Nat → Nat → Int32} {G : Nat → Nat → Int} {c : Int} {n : Nat} (h : ∀ i : Nat, i < n → PtF A G i) : ∀ i : Nat, i < n → PtF A (mGive G c 0 0) i := fun i hi => (h i hi).to rfl rfl (fun k _ _ _ _ _ => (mGive_0 G c k i).symm)
theorem mMissI_k (G : Nat → Nat → Int) (q p : Nat) {k : Nat} (i : Nat) (h : k ≠ 42) (h2 : k ≠ 28) : mMissI G q p k i = G k i := by
  unfold mMissI
  rw [gu_at, if_neg (fun z => h2 z.1), gr_ne _ _ h]
theorem mMissI_42' (G : Nat → Nat → Int) (q p i : Nat) : mMissI G q p 42 i = if i < p then mMi G i (q + 1) else if (i : Int) < G 28 0 then mMi G i q else G 42 i := by
  unfold mMissI
  rw [gu_at, if_neg (fun z => absurd z.1 (by decide)), gr_self]
theorem PtR_miss {A : Nat → Nat → Int32} {G : Nat → Nat → Int} {q p i : Nat} (h : PtR A (mMissI G q p) i) : PtR A G i := by
  unfold PtR at *
  rw [mMissI_k G q p i (k := 29) (by decide) (by decide), mMissI_k G q p i (k := 30) (by decide) (by decide), mMissI_k G q p i (k := 31) (by decide) (by decide), mMissI_k G q p i (k := 32) (by decide) (by decide), mMissI_k G q p i (k := 33) (by decide) (by decide), mMissI_k G q p i (k := 34) (by decide) (by decide)] at h
  exact h
theorem PtF.miss {A A' : Nat → Nat → Int32} {G : Nat → Nat → Int} {q p q' p' i : Nat} (h : PtF A (mMissI G q p) i) (h1 : ∀ j, j ≠ 9 → A' (33 + 2 * i) j = A (33 + 2 * i) j) (h2 : A' (33 + 2 * i + 1) = A (33 + 2 * i + 1)) (h3 : A' (33 + 2 * i) 9 = zI (mMissI G q' p' 42 i)) : PtF A' (mMissI G q' p') i := by
  unfold PtF PtR at *
  rw [h1 0 (by decide), h1 1 (by decide), h1 2 (by decide), h1 3 (by decide), h1 4 (by decide), h1 5 (by decide), h1 6 (by decide), h1 8 (by decide), h2, h3]
  simp only [mMissI_k G _ _ _ (show (29 : Nat) ≠ 42 by decide) (show (29 : Nat) ≠ 28 by decide), mMissI_k G _ _ _ (show (30 : Nat) ≠ 42 by decide) (show (30 : Nat) ≠ 28 by decide), mMissI_k G _ _ _ (show (31 : Nat) ≠ 42 by decide) (show (31 : Nat) ≠ 28 by decide), mMissI_k G _ _ _ (show (32 : Nat) ≠ 42 by decide) (show (32 : Nat) ≠ 28 by decide), mMissI_k G _ _ _ (show (33 : Nat) ≠ 42 by decide) (show (33 : Nat) ≠ 28 by decide), mMissI_k G _ _ _ (show (34 : Nat) ≠ 42 by decide) (show (34 : Nat) ≠ 28 by decide), mMissI_k G _ _ _ (show (35 : Nat) ≠ 42 by decide) (show (35 : Nat) ≠ 28 by decide), mMissI_k G _ _ _ (show (39 : Nat) ≠ 42 by decide) (show (39 : Nat) ≠ 28 by decide), mMissI_k G _ _ _ (show (40 : Nat) ≠ 42 by decide) (show (40 : Nat) ≠ 28 by decide), mMissI_k G _ _ _ (show (41 : Nat) ≠ 42 by decide) (show (41 : Nat) ≠ 28 by decide)] at h ⊢
  exact ⟨h.1, h.2.1, h.2.2.1, trivial, h.2.2.2.2⟩
theorem Miss_y {A : Nat → Nat → Int32} {G : Nat → Nat → Int} {q p n : Nat} (hn : G 28 0 = (n : Int)) (hp : p < n) (h : ∀ i : Nat, i < n → PtF A (mMissI G q p) i) (hs : (G 28 19 + ((q + 1 : Nat) : Int)) % 256 % G 31 p = G 33 p) : ∀ i : Nat, i < n → PtF (gu A (33 + 2 * p) 9 (zI (mMi G p q + G 32 p))) (mMissI G q (p + 1)) i := by
  intro i hi
  by_cases e : i = p
  · subst e
    refine (h i hi).miss (fun j hj => by rw [gu_at, if_neg (by omega)]) (by rw [gu_ne _ _ _ (by omega)]) ?_
    rw [gu_at, if_pos ⟨rfl, rfl⟩, mMissI_42', if_pos (by omega)]
    show _ = zI (mMi G i q + (if (G 28 19 + ((q + 1 : Nat) : Int)) % 256 % G 31 i = G 33 i then G 32 i else 0))
    rw [if_pos hs]
  · refine (h i hi).miss (fun j hj => by rw [gu_ne _ _ _ (by omega)]) (by rw [gu_ne _ _ _ (by omega)]) ?_
    rw [gu_ne _ _ _ (by omega), (h i hi).2.2.2.1, mMissI_42', mMissI_42']
    by_cases e2 : i < p
    · rw [if_pos e2, if_pos (by omega)]
    · rw [if_neg e2, if_neg (show ¬ i < p + 1 by omega)]
theorem Miss_n {A : Nat → Nat → Int32} {G : Nat → Nat → Int} {q p n : Nat} (hn : G 28 0 = (n : Int)) (hp : p < n) (h : ∀ i : Nat, i < n → PtF A (mMissI G q p) i) (hs : ¬ (G 28 19 + ((q + 1 : Nat) : Int)) % 256 % G 31 p = G 33 p) : ∀ i : Nat, i < n → PtF A (mMissI G q (p + 1)) i := by
  intro i hi
  refine (h i hi).miss (fun j hj => rfl) rfl ?_
  rw [(h i hi).2.2.2.1, mMissI_42', mMissI_42']
  by_cases e : i = p
  · subst e
    rw [if_neg (by omega), if_pos (by omega), if_pos (by omega)]
    show _ = zI (mMi G i q + (if (G 28 19 + ((q + 1 : Nat) : Int)) % 256 % G 31 i = G 33 i then G 32 i else 0))
    rw [if_neg hs, Int.add_zero]
  · by_cases e2 : i < p
    · rw [if_pos e2, if_pos (by omega)]
    · rw [if_neg e2, if_neg (show ¬ i < p + 1 by omega)]
theorem Miss_e {A : Nat → Nat → Int32} {G : Nat → Nat → Int} {q n : Nat} (hn : G 28 0 = (n : Int)) (h : ∀ i : Nat, i < n → PtF A (mMissI G q n) i) : ∀ i : Nat, i < n → PtF A (mMissI G (q + 1) 0) i := by
  intro i hi
  refine (h i hi).miss (fun j hj => rfl) rfl ?_
  rw [(h i hi).2.2.2.1, mMissI_42', mMissI_42', if_pos hi, if_neg (by omega), if_pos (by omega)]
theorem Miss_0 {A : Nat → Nat → Int32} {G : Nat → Nat → Int} {n : Nat} (h : ∀ i : Nat, i < n → PtF A G i) : ∀ i : Nat, i < n → PtF A (mMissI G 0 0) i := fun i hi => (h i hi).to rfl rfl (fun k _ _ _ _ _ => (mMissI_0 G k i).symm)
