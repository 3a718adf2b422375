/-! ===== a point gets its place ===== -/
def PL_points (cy : Nat → ClassId) (n : Nat) (ad : Nat → Nat) (A : Nat → Nat → Int32) (J : Nat → Nat → Int64) : Option Value → (Nat → Nat) → Nat → (Nat → va_E) → Prop := fun v_ ad1 N1 w1 => v_ = some (.int (nI 1)) ∧ ((n ≠ 0 ∧ ad1 = ad ∧ N1 = 33 + 2 * n ∧ w1 = gw cy ad n A J) ∨ ((∀ k, k < 33 + 2 * n → ad1 k = ad k) ∧ N1 = 33 + 2 * (n + 1) ∧ ∃ A1 J1 G1, w1 = gw cy ad1 (n + 1) A1 J1 ∧ LI (n + 1) A1 J1 G1 ∧ J1 29 = J1 3 ∧ G1 28 9 = 0))
theorem CAll.ofJ {n : Nat} {A : Nat → Nat → Int32} {J J' : Nat → Nat → Int64} {G : Nat → Nat → Int} (h : CAll n A J G) (hJ : ∀ k, k < 28 → J' k = J k) : CAll n A J' G := by
  obtain ⟨hct, hn, hT, hFs, hpr, hz, hU, hD, hso, hse, hli, hsy, hde, hcd, hok, hdv, hdr, hsn, hol, hln⟩ := h
  exact ⟨hct, hn, hT, hFs, hpr, hz, hU.to (hJ 3 (by omega)) rfl (fun _ _ _ _ => rfl), hD, hso, hse.to rfl (by rw [hJ 6 (by omega)]) rfl rfl (fun _ _ _ _ => rfl) (fun _ => rfl), hli, hsy.to rfl rfl (by rw [hJ 7 (by omega)]) (fun _ => rfl) (fun _ _ _ => rfl), hde, hcd, hok, hdv, hdr, hsn, hol, hln⟩
theorem pu_step {pN phN cI : Nat} {b : Int64} {f : Nat → Int64} (hp : pN = 1 ∨ pN = 2 ∨ pN = 4) (hc : cI ≤ 3 + pN ∧ phN ≤ cI ∧ ((cI : Int) - (phN : Int)) % (pN : Int) = 0) (hk : phN < pN) {Jq : Nat → Nat → Int64} (h : ∀ r : Nat, Jq 29 r = if r < cI ∧ (r : Int) % (pN : Int) = (phN : Int) then f r ||| b else f r) : ∀ r : Nat, gu Jq 29 cI (Jq 29 cI ||| b) 29 r = if r < cI + pN ∧ (r : Int) % (pN : Int) = (phN : Int) then f r ||| b else f r := by
  intro r
  rw [gu_at]
  have hm : (cI : Int) % (pN : Int) = (phN : Int) := by rcases hp with rfl | rfl | rfl <;> omega
  by_cases hr : r = cI
  · subst hr
    rw [if_pos ⟨rfl, rfl⟩, h, if_neg (fun z => by omega), if_pos ⟨by omega, hm⟩]
  · rw [if_neg (fun z => hr z.2), h]
    by_cases hq : r < cI ∧ (r : Int) % (pN : Int) = (phN : Int)
    · rw [if_pos hq, if_pos ⟨by omega, hq.2⟩]
    · rw [if_neg hq, if_neg (fun z => hq ⟨by obtain ⟨z1, z2⟩ := z; rcases hp with rfl | rfl | rfl <;> omega, z.2⟩)]
theorem pu_end {pN phN cI : Nat} {b : Int64} {f : Nat → Int64} (hp : pN = 1 ∨ pN = 2 ∨ pN = 4) (hc : cI ≤ 3 + pN ∧ phN ≤ cI ∧ ((cI : Int) - (phN : Int)) % (pN : Int) = 0) (hk : phN < pN) (h4 : 4 ≤ cI) {Jq : Nat → Nat → Int64} (h : ∀ r : Nat, Jq 29 r = if r < cI ∧ (r : Int) % (pN : Int) = (phN : Int) then f r ||| b else f r) : ∀ r : Nat, Jq 29 r = if r < 4 ∧ (r : Int) % (pN : Int) = (phN : Int) then f r ||| b else f r := by
  intro r
  rw [h]
  by_cases hq : r < 4 ∧ (r : Int) % (pN : Int) = (phN : Int)
  · rw [if_pos ⟨by omega, hq.2⟩, if_pos hq]
  · rw [if_neg hq, if_neg (fun z => hq ⟨Nat.lt_of_not_le (fun z4 => pl_4 hp hc hk h4 z.1 z.2 z4), z.2⟩)]
def LPl (G : Nat → Nat → Int) (n w p e : Nat) (aI : Int) : Prop := (aI = -1 ∧ (n = 12 ∨ mNone G (w : Int) (p : Int) (e : Int) (p : Int) 0)) ∨ ∃ ph fr : Nat, n < 12 ∧ aI = ((100 * ph + fr : Nat) : Int) ∧ ph < p ∧ (fr : Int) + (w : Int) ≤ mLim (e : Int) ∧ mFree G (fr : Int) (w : Int) (ph : Int) (p : Int) (e : Int) ∧ mNone G (w : Int) (p : Int) (e : Int) (ph : Int) (fr : Int)
theorem LPl_full {G : Nat → Nat → Int} {n w p e : Nat} (h : n = 12) : LPl G n w p e (-1) := Or.inl ⟨rfl, Or.inl h⟩
theorem LPl_none {G : Nat → Nat → Int} {n w p e : Nat} (h : mNone G (w : Int) (p : Int) (e : Int) (p : Int) 0) : LPl G n w p e (-1) := Or.inl ⟨rfl, Or.inr h⟩
theorem LPl_some {G : Nat → Nat → Int} {n w p e ph fr : Nat} (hn : n < 12) (h1 : ph < p ∧ fr + w ≤ 48 ∧ (fr : Int) + (w : Int) ≤ mLim (e : Int)) (h2 : mFree G (fr : Int) (w : Int) (ph : Int) (p : Int) (e : Int)) (h3 : mNone G (w : Int) (p : Int) (e : Int) (ph : Int) (fr : Int)) : LPl G n w p e ((100 * ph + fr : Nat) : Int) := Or.inr ⟨ph, fr, hn, rfl, h1.1, h1.2.2, h2, h3⟩
theorem LPl.first {G : Nat → Nat → Int} {n w p e : Nat} {aI : Int} (h : LPl G n w p e aI) (hn : n < 12) {t : Int} (ht : t = (e : Int)) : mFirst G (w : Int) (p : Int) t aI := by
  subst ht
  rcases h with ⟨h1, h2⟩ | ⟨ph, fr, h1, h2, h3, h4, h5, h6⟩
  · exact Or.inl ⟨h1, h2.resolve_left (by omega)⟩
  · exact Or.inr ⟨(ph : Int), (fr : Int), by rw [h2]; push_cast; rfl, by omega, by omega, by omega, h4, h5, h6⟩
theorem LPl.full {G : Nat → Nat → Int} {n w p e : Nat} {aI : Int} (h : LPl G n w p e aI) (hn : n = 12) : aI = -1 := by
  rcases h with ⟨h1, h2⟩ | ⟨ph, fr, h1, -⟩
  · exact h1
  · omega
theorem LPl.none {G : Nat → Nat → Int} {n w p e : Nat} {aI : Int} (h : LPl G n w p e aI) {t : Int} (ht : t = (e : Int)) (h8 : mNone G (w : Int) (p : Int) t (p : Int) 0) : aI = -1 := by
  subst ht
  rcases h with ⟨h1, h2⟩ | ⟨ph, fr, h1, h2, h3, h4, h5, h6⟩
  · exact h1
  · exact absurd h5 (h8 (ph : Int) (fr : Int) (by omega) (by omega) (by omega) h4 (Or.inl (by omega)))
theorem LPl.zero {A : Nat → Nat → Int32} {J : Nat → Nat → Int64} {G : Nat → Nat → Int} {w p e : Nat} {aI : Int} (h : LPl G 0 w p e aI) (hL : LI 0 A J G) (hb : 0 < p ∧ w ≤ 24) (ha : aI = -1) : False := by
  rcases h with ⟨-, h2⟩ | ⟨ph, fr, h1, h2, -⟩
  · rcases h2 with h2 | h2
    · omega
    · have hu : ∀ c b : Int, mUser G c b (G 28 0).toNat = -1 := fun c b => by rw [hL.1.2.1]; rfl
      refine h2 0 0 (by omega) (by omega) (by omega) (by unfold mLim; split <;> omega) (Or.inl (by omega)) ?_
      intro c _ _ _ j _
      exact ⟨hu _ _, Or.inr (hu _ _)⟩
  · omega
/-! ===== nothing is sent yet ===== -/
theorem zero_of {n : Nat} {A : Nat → Nat → Int32} {J : Nat → Nat → Int64} {G : Nat → Nat → Int} (hC : CAll n A J G) (h9 : G 28 9 = 0) : (G 28 10 = 0 ∧ G 28 12 = 0 ∧ G 28 21 = 0 ∧ G 28 22 = 0 ∧ G 28 23 = 0 ∧ G 28 14 = 0) ∧ ∀ i, G 41 i = 0 ∧ G 42 i = 0 := by
  obtain ⟨-, -, -, -, -, -, -, -, -, -, -, -, -, -, hok, -, -, hsn, hol, -⟩ := hC
  obtain ⟨hT, hpa, hta, hst, hnr, hsa⟩ := hok
  obtain ⟨n1, n2, n3, n4, n5, n6, n7, n8⟩ := hnr
  have h12 : G 28 12 = 0 := by omega
  have h21 : G 28 21 = 0 := by omega
  have h22 : G 28 22 = 0 := by omega
  refine ⟨⟨by omega, h12, h21, h22, by omega, ?_⟩, fun i => by have := hsa i; omega⟩
  rcases hst with z | ⟨-, z1, z2, -⟩
  · exact z
  · omega
theorem mRI_0 {G : Nat → Nat → Int} (h21 : G 28 21 = 0) (h22 : G 28 22 = 0 ∧ G 28 23 = 0) (h41 : ∀ i, G 41 i = 0) : mRI G := ⟨fun _ => h22, fun z => absurd h21 z, fun i _ => ⟨fun z => absurd h21 z, fun z => absurd (h41 i) z⟩⟩
theorem WI_0 {n : Nat} {A : Nat → Nat → Int32} {J : Nat → Nat → Int64} {G : Nat → Nat → Int} (hC : CAll n A J G) (h9 : G 28 9 = 0) : WI G 0 := by
  obtain ⟨⟨a, b, c, d, e, f⟩, g⟩ := zero_of hC h9
  exact ⟨⟨by omega, a, by omega, d, e⟩, fun i _ => (g i).2, rfl, fun _ => f, fun z => absurd z (by decide), fun z => absurd z (by decide), fun z => absurd z (by decide), fun _ => c⟩
theorem new_row {J J1 J2 : Nat → Nat → Int64} {b b' : Int64} {p ph : Int} (hJ1 : J1 = gUse J b p ph 4) (hJ9 : J 29 = J 3) (hb : b = b') (hk : ∀ k, k ≠ 29 → J2 k = J1 k) (hr : ∀ r : Nat, J2 29 r = if r < 4 ∧ (r : Int) % p = ph then J1 29 r ||| b' else J1 29 r) : J2 29 = J2 3 := by
  funext r
  have h29 : J1 29 = J 29 := by rw [hJ1]; exact gr_ne _ _ (by decide)
  rw [hr, hk 3 (by decide), h29, hJ9, hJ1, gUse_at, hb]
theorem LI_new {n : Nat} {A A1 : Nat → Nat → Int32} {J J1 J2 : Nat → Nat → Int64} {G : Nat → Nat → Int} {w c p t ph o e : Nat} (h : LI n A J G) (h09 : G 28 9 = 0) (hC : CAll (n + 1) A1 J1 (gNG G n (w : Int) (c : Int) (p : Int) t ph o)) (hA : ∀ k, 28 ≤ k → k < 33 → A1 k = A k) (ht : t + 1 = e) (hb : n < 12 ∧ e ≤ 2) (hJ : ∀ k, k < 28 → J2 k = J1 k) : LI (n + 1) (gu (gu (gu (gu A1 28 (4 * n) (nI w)) 28 (4 * n + 1) (nI c)) 28 (4 * n + 2) (nI p)) 28 (4 * n + 3) (nI e)) J2 (gNG G n (w : Int) (c : Int) (p : Int) t ph o) := by
  obtain ⟨a, b, cv, d, er, c1, c2, f0, f1, f2, f3, f4⟩ := h
  obtain ⟨g29, g30, g31, g32, g33, g34⟩ := gNG_n G n (w : Int) (c : Int) (p : Int) t ph o
  have gk : ∀ k j, k ≠ 28 → 34 < k → gNG G n (w : Int) (c : Int) (p : Int) t ph o k j = G k j := fun k j z z2 => gNG_k (by omega) (by omega)
  have g28 : ∀ j, j ≠ 0 → gNG G n (w : Int) (c : Int) (p : Int) t ph o 28 j = G 28 j := fun j z => gNG_k (by omega) (by omega)
  have hz := zero_of hC (by rw [g28 9 (by decide)]; exact h09)
  have aR : ∀ k, k ≠ 28 → (gu (gu (gu (gu A1 28 (4 * n) (nI w)) 28 (4 * n + 1) (nI c)) 28 (4 * n + 2) (nI p)) 28 (4 * n + 3) (nI e)) k = A1 k := fun k z => by rw [gu_ne _ _ _ z, gu_ne _ _ _ z, gu_ne _ _ _ z, gu_ne _ _ _ z]
  refine ⟨(hC.of (fun k hk => aR k (by omega))).ofJ hJ, fun i hi => ?_, fun i hi => ?_, fun k hk => ?_, mRI_0 hz.1.2.2.1 ⟨hz.1.2.2.2.1, hz.1.2.2.2.2.1⟩ (fun i => (hz.2 i).1), c1, c2, ?_, ?_, ?_, ?_, ?_⟩
  · by_cases hin : i = n
    · subst hin
      rw [g29, g30, g31, g32]
      simp only [gu_at]
      refine ⟨?_, ?_, ?_, ?_⟩
      · rw [if_neg (by omega), if_neg (by omega), if_neg (by omega), if_pos (by simp), zI_n]
      · rw [if_neg (by omega), if_neg (by omega), if_pos (by simp), zI_n]
      · rw [if_neg (by omega), if_pos (by simp), zI_n]
      · rw [if_pos (by simp), ← ht, zI_n]
    · obtain ⟨q1, q2, q3, q4⟩ := b i (by omega)
      have e1 : ∀ k, 29 ≤ k → k ≤ 34 → gNG G n (w : Int) (c : Int) (p : Int) t ph o k i = G k i := fun k z z2 => gNG_k (by omega) (by omega)
      rw [e1 29 (by omega) (by omega), e1 30 (by omega) (by omega), e1 31 (by omega) (by omega), e1 32 (by omega) (by omega), ← q1, ← q2, ← q3, ← q4]
      simp only [gu_at]
      rw [if_neg (by omega), if_neg (by omega), if_neg (by omega), if_neg (by omega), if_neg (by omega), if_neg (by omega), if_neg (by omega), if_neg (by omega), if_neg (by omega), if_neg (by omega), if_neg (by omega), if_neg (by omega), if_neg (by omega), if_neg (by omega), if_neg (by omega), if_neg (by omega), hA 28 (by omega) (by omega)]
      exact ⟨rfl, rfl, rfl, rfl⟩
  · rw [aR 30 (by decide), hA 30 (by omega) (by omega), gk 35 i (by decide) (by decide)]; exact cv i hi
  · rw [aR 32 (by decide), hA 32 (by omega) (by omega), d k hk, dN_to (fun k j z z2 => gk k j (by omega) (by omega))]
  · rw [aR 31 (by decide), hA 31 (by omega) (by omega), g28 9 (by decide)]; exact f0
  · rw [aR 31 (by decide), hA 31 (by omega) (by omega)]; exact f1
  · rw [aR 31 (by decide), hA 31 (by omega) (by omega)]; exact f2
  · rcases f3 with z | z
    · exact Or.inl z
    · exfalso
      exact z.1 (by rw [← g28 21 (by decide)]; exact hz.1.2.2.1)
  · rw [g28 10 (by decide), g28 12 (by decide), g28 9 (by decide)]; exact f4
