/-! ===== what stands between two steps of the law ===== -/
def LI (n : Nat) (A : Nat → Nat → Int32) (J : Nat → Nat → Int64) (G : Nat → Nat → Int) : Prop :=
  CAll n A J G ∧ LGR A G n ∧ (∀ i, i < 12 → A 30 i = zI (G 35 i)) ∧ (∀ k, k < 8 → A 32 k = nI (dN G k)) ∧ mRI G ∧ ∃ c1 c2 : Int, A 31 0 = zI (G 28 9) ∧ A 31 1 = zI c1 ∧ A 31 2 = zI c2 ∧ LC2 G c2 ∧ (G 28 10 + G 28 12 + c1 = 8 * G 28 9 ∧ 0 ≤ c1 ∧ c1 ≤ 8000)
theorem drop_j {G : Nat → Nat → Int} {ix cnt k j : Nat} (h : j ≠ 10) : mDrop G ix cnt k 28 j = G 28 j := by
  unfold mDrop
  rw [gr_ne _ _ (by decide), gu_at, if_neg (fun z => h z.2)]
theorem drop_k {G : Nat → Nat → Int} {ix cnt k q j : Nat} (h : q ≠ 28) (h2 : q ≠ 37) : mDrop G ix cnt k q j = G q j := by
  unfold mDrop
  rw [gr_ne _ _ h2, gu_ne _ _ _ h]
theorem drop_10 {G : Nat → Nat → Int} {ix cnt k : Nat} : mDrop G ix cnt k 28 10 = G 28 10 - (cnt : Int) := by
  unfold mDrop
  rw [gr_ne _ _ (by decide), gu_at, if_pos ⟨rfl, rfl⟩]
theorem mSend_9 (G : Nat → Nat → Int) (q : Nat) : mSend G q 28 9 = G 28 9 + (q : Int) := by
  induction q with
  | zero => show G 28 9 = _; omega
  | succ q ih => show mSW (mSend G q) 28 9 = _; rw [mSW_9, ih]; omega
theorem mSend_10 (G : Nat → Nat → Int) (q : Nat) : mSend G q 28 10 = G 28 10 + 8 * (q : Int) := by
  induction q with
  | zero => show G 28 10 = _; omega
  | succ q ih => show mSW (mSend G q) 28 10 = _; rw [mSW_10, ih]; omega
theorem mSend_k (G : Nat → Nat → Int) (q : Nat) {k j : Nat} (h1 : k ≠ 36) (h2 : k ≠ 37) (h3 : ¬ (k = 28 ∧ (j = 9 ∨ j = 10))) : mSend G q k j = G k j := by
  induction q with
  | zero => rfl
  | succ q ih => exact (mSW_k _ h1 h2 h3).trans ih
theorem mRcv_12 (G : Nat → Nat → Int) (q : Nat) : mRcv G q 28 12 = G 28 12 + (q : Int) := by
  induction q with
  | zero => show G 28 12 = _; omega
  | succ q ih => show mTake (mRcv G q) _ 28 12 = _; rw [mTake_12, ih]; omega
theorem dN_to {G G' : Nat → Nat → Int} (h : ∀ k j, 43 ≤ k → k ≤ 45 → G' k j = G k j) (k : Nat) : dN G' k = dN G k := by
  unfold dN
  rw [h 43 k (by omega) (by omega), h 44 k (by omega) (by omega), h 45 k (by omega) (by omega)]
theorem LI.mk {n : Nat} {A A1 : Nat → Nat → Int32} {J J1 : Nat → Nat → Int64} {G G1 : Nat → Nat → Int} (h : LI n A J G) (hC : CAll n A1 J1 G1) (h28 : A1 28 = A 28) (g29 : ∀ k j, 29 ≤ k → k ≤ 32 → G1 k j = G k j) (hv : ∀ i, i < 12 → A1 30 i = zI (G1 35 i)) (hd : ∀ k, k < 8 → A1 32 k = nI (dN G1 k)) (hR : mRI G1 ∧ (G 28 21 ≠ 0 → G1 28 21 ≠ 0 ∧ mFst G1 = mFst G)) (h2 : A1 31 2 = A 31 2) (h0 : A1 31 0 = zI (G1 28 9)) (h1 : ∃ c1 : Int, A1 31 1 = zI c1 ∧ (G1 28 10 + G1 28 12 + c1 = 8 * G1 28 9 ∧ 0 ≤ c1 ∧ c1 ≤ 8000)) : LI n A1 J1 G1 := by
  obtain ⟨a, b, c, d, e, c1, c2, f0, f1, f2, f3, f4⟩ := h
  obtain ⟨c9, q1, q2⟩ := h1
  refine ⟨hC, b.to h28 g29, hv, hd, hR.1, c9, c2, h0, q1, h2.trans f2, ?_, q2⟩
  rcases f3 with z | z
  · exact Or.inl z
  · exact Or.inr ⟨(hR.2 z.1).1, z.2.trans (hR.2 z.1).2.symm⟩
theorem mRI.same {G G' : Nat → Nat → Int} (h : mRI G) (h0 : G' 28 0 = G 28 0) (hs : ∀ j, 19 ≤ j → j ≤ 23 → G' 28 j = G 28 j) (hp : ∀ k j, 29 ≤ k → k ≤ 34 → G' k j = G k j) (h39 : ∀ k j, 39 ≤ k → k ≤ 42 → G' k j = G k j) : mRI G' ∧ (G 28 21 ≠ 0 → G' 28 21 ≠ 0 ∧ mFst G' = mFst G) :=
  ⟨(h.to h0 hs hp h39).1, fun z => ⟨by rw [hs 21 (by omega) (by omega)]; exact z, (h.to h0 hs hp h39).2⟩⟩
theorem LI.put {n : Nat} {A A1 : Nat → Nat → Int32} {J : Nat → Nat → Int64} {G : Nat → Nat → Int} {i : Nat} {v : Int} (h : LI n A J G) (hC : CAll n A1 J (gu G 35 i v)) (hi : i < 12) (hA : ∀ k, k < 33 → A1 k = gu A 30 i (zI v) k) : LI n A1 J (gu G 35 i v) := by
  obtain ⟨a, b, c, d, e, c1, c2, f0, f1, f2, f3, f4⟩ := id h
  have g : ∀ k j, k ≠ 35 → gu G 35 i v k j = G k j := fun k j z => by rw [gu_ne _ _ _ z]
  have a9 : ∀ k, k < 33 → k ≠ 30 → A1 k = A k := fun k z z2 => by rw [hA k z, gu_ne _ _ _ z2]
  refine h.mk hC (a9 28 (by omega) (by omega)) (fun k j z z2 => g k j (by omega)) (fun j hj => ?_) (fun k hk => ?_) (e.same (g _ _ (by omega)) (fun j _ _ => g _ _ (by omega)) (fun k j _ _ => g _ _ (by omega)) (fun k j _ _ => g _ _ (by omega))) (by rw [a9 31 (by omega) (by omega)]) (by rw [a9 31 (by omega) (by omega), g _ _ (by omega)]; exact f0) ⟨c1, by rw [a9 31 (by omega) (by omega)]; exact f1, by rw [g _ _ (by omega), g _ _ (by omega), g _ _ (by omega)]; exact f4⟩
  · rw [hA 30 (by omega), gu_at, gu_at]
    by_cases hji : j = i
    · rw [if_pos ⟨rfl, hji⟩, if_pos ⟨rfl, hji⟩]
    · rw [if_neg (fun z => hji z.2), if_neg (fun z => hji z.2)]; exact c j hj
  · rw [a9 32 (by omega) (by omega), d k hk, dN_to (fun k j _ _ => g k j (by omega))]
theorem LI.send {n : Nat} {A A1 : Nat → Nat → Int32} {J J1 : Nat → Nat → Int64} {G : Nat → Nat → Int} {t : Nat} (h : LI n A J G) (hC : CAll n A1 J1 (mSend G (t : Int).toNat)) (ht : 0 ≤ (t : Int)) (hA : ∀ k, 28 ≤ k → k < 33 → A1 k = gu A 31 0 (zI (G 28 9 + (t : Int))) k) : LI n A1 J1 (mSend G (t : Int).toNat) := by
  obtain ⟨a, b, c, d, e, c1, c2, f0, f1, f2, f3, f4⟩ := id h
  rw [Int.toNat_natCast] at hC ⊢
  have g : ∀ k j, k ≠ 36 → k ≠ 37 → ¬ (k = 28 ∧ (j = 9 ∨ j = 10)) → mSend G t k j = G k j := fun k j z1 z2 z3 => mSend_k G t z1 z2 z3
  have a9 : ∀ k, 28 ≤ k → k < 33 → k ≠ 31 → A1 k = A k := fun k z z1 z2 => by rw [hA k z z1, gu_ne _ _ _ z2]
  refine h.mk hC (a9 28 (by omega) (by omega) (by omega)) (fun k j z z2 => g k j (by omega) (by omega) (by omega)) (fun j hj => ?_) (fun k hk => ?_) (e.same (g _ _ (by omega) (by omega) (by omega)) (fun j _ _ => g _ _ (by omega) (by omega) (by omega)) (fun k j _ _ => g _ _ (by omega) (by omega) (by omega)) (fun k j _ _ => g _ _ (by omega) (by omega) (by omega))) (by rw [hA 31 (by omega) (by omega), gu_at, if_neg (by omega)]) (by rw [hA 31 (by omega) (by omega), gu_at, if_pos ⟨rfl, rfl⟩, mSend_9]) ⟨c1, by rw [hA 31 (by omega) (by omega), gu_at, if_neg (by omega)]; exact f1, by rw [mSend_9, mSend_10, g 28 12 (by omega) (by omega) (by omega)]; omega⟩
  · rw [a9 30 (by omega) (by omega) (by omega), g 35 j (by omega) (by omega) (by omega)]; exact c j hj
  · rw [a9 32 (by omega) (by omega) (by omega), d k hk, dN_to (fun k j _ _ => g k j (by omega) (by omega) (by omega))]
theorem LI.rcv {n : Nat} {A A1 : Nat → Nat → Int32} {J J1 : Nat → Nat → Int64} {G : Nat → Nat → Int} {q x : Nat} (h : LI n A J G) (hC : CAll n A1 J1 (mDrop (mRcv G q) 0 q x)) (hq : (q : Int) ≤ G 28 10) (hA : ∀ k, 28 ≤ k → k < 33 → A1 k = A k) : LI n A1 J1 (mDrop (mRcv G q) 0 q x) := by
  obtain ⟨a, b, c, d, e, c1, c2, f0, f1, f2, f3, f4⟩ := id h
  obtain ⟨-, -, -, -, -, -, -, -, -, -, hok, -, -, hsum, hln, -, -⟩ := a.bd
  have hR := mRI_rcv e hok hln q (by omega)
  have hR2 := hR.1.same (G' := mDrop (mRcv G q) 0 q x) (drop_j (by decide)) (fun j z z2 => drop_j (by omega)) (fun k j z z2 => drop_k (by omega) (by omega)) (fun k j z z2 => drop_k (by omega) (by omega))
  have g : ∀ k j, k ≠ 28 → k ≠ 37 → (k < 38 ∨ 42 < k) → mDrop (mRcv G q) 0 q x k j = G k j := fun k j z1 z2 z3 => (drop_k z1 z2).trans (mRcv_k G q j z1 z3)
  refine h.mk hC (hA 28 (by omega) (by omega)) (fun k j z z2 => g k j (by omega) (by omega) (by omega)) (fun j hj => ?_) (fun k hk => ?_) ⟨hR2.1, fun z => ⟨(hR2.2 (hR.2 z).1).1, (hR2.2 (hR.2 z).1).2.trans (hR.2 z).2⟩⟩ (by rw [hA 31 (by omega) (by omega)]) (by rw [hA 31 (by omega) (by omega), drop_j (by decide), mRcv_sc G q (by omega)]; exact f0) ⟨c1, by rw [hA 31 (by omega) (by omega)]; exact f1, by rw [drop_10, drop_j (by decide), drop_j (by decide), mRcv_12, mRcv_sc G q (by omega), mRcv_sc G q (by omega)]; omega⟩
  · rw [hA 30 (by omega) (by omega), g 35 j (by omega) (by omega) (by omega)]; exact c j hj
  · rw [hA 32 (by omega) (by omega), d k hk, dN_to (fun k j _ _ => g k j (by omega) (by omega) (by omega))]
theorem LI.flip {n : Nat} {A A1 : Nat → Nat → Int32} {J J1 : Nat → Nat → Int64} {G : Nat → Nat → Int} {i : Nat} {v : Int} (h : LI n A J G) (hC : CAll n A1 J1 (gu G 37 i v)) (hA : ∀ k, 28 ≤ k → A1 k = A k) : LI n A1 J1 (gu G 37 i v) := by
  obtain ⟨a, b, c, d, e, c1, c2, f0, f1, f2, f3, f4⟩ := id h
  have g : ∀ k j, k ≠ 37 → gu G 37 i v k j = G k j := fun k j z => by rw [gu_ne _ _ _ z]
  refine h.mk hC (hA 28 (by omega)) (fun k j z z2 => g k j (by omega)) (fun j hj => ?_) (fun k hk => ?_) (e.same (g _ _ (by omega)) (fun j _ _ => g _ _ (by omega)) (fun k j _ _ => g _ _ (by omega)) (fun k j _ _ => g _ _ (by omega))) (by rw [hA 31 (by omega)]) (by rw [hA 31 (by omega), g _ _ (by omega)]; exact f0) ⟨c1, by rw [hA 31 (by omega)]; exact f1, by rw [g _ _ (by omega), g _ _ (by omega), g _ _ (by omega)]; exact f4⟩
  · rw [hA 30 (by omega), g 35 j (by omega)]; exact c j hj
  · rw [hA 32 (by omega), d k hk, dN_to (fun k j _ _ => g k j (by omega))]
theorem LI.cut {n : Nat} {A A1 : Nat → Nat → Int32} {J J1 : Nat → Nat → Int64} {G : Nat → Nat → Int} {ix x : Nat} {cI c1 : Int} (h : LI n A J G) (hC : CAll n A1 J1 (mDrop G ix cI.toNat x)) (h1 : 1 ≤ cI) (h2 : cI ≤ G 28 10) (hA1 : A 31 1 = zI c1) (hs : G 28 10 + G 28 12 + c1 = 8 * G 28 9 ∧ 0 ≤ c1 ∧ c1 ≤ 8000) (hA : ∀ k, 28 ≤ k → A1 k = gu A 31 1 (zI (c1 + cI)) k) : LI n A1 J1 (mDrop G ix cI.toNat x) := by
  obtain ⟨a, b, c, d, e, c9, c2, f0, f1, f2, f3, f4⟩ := id h
  obtain ⟨-, -, -, -, htk, -, -, -, hsn, -⟩ := a.bd
  have g : ∀ k j, k ≠ 28 → k ≠ 37 → mDrop G ix cI.toNat x k j = G k j := fun k j z1 z2 => drop_k z1 z2
  have a9 : ∀ k, 28 ≤ k → k ≠ 31 → A1 k = A k := fun k z z2 => by rw [hA k z, gu_ne _ _ _ z2]
  refine h.mk hC (a9 28 (by omega) (by omega)) (fun k j z z2 => g k j (by omega) (by omega)) (fun j hj => ?_) (fun k hk => ?_) (e.same (drop_j (by decide)) (fun j _ _ => drop_j (by omega)) (fun k j _ _ => g _ _ (by omega) (by omega)) (fun k j _ _ => g _ _ (by omega) (by omega))) (by rw [hA 31 (by omega), gu_at, if_neg (by omega)]) (by rw [hA 31 (by omega), gu_at, if_neg (by omega), drop_j (by decide)]; exact f0) ⟨c1 + cI, by rw [hA 31 (by omega), gu_at, if_pos ⟨rfl, rfl⟩], by rw [drop_10, drop_j (by decide), drop_j (by decide)]; omega⟩
  · rw [a9 30 (by omega) (by omega), g 35 j (by omega) (by omega)]; exact c j hj
  · rw [a9 32 (by omega) (by omega), d k hk, dN_to (fun k j _ _ => g k j (by omega) (by omega))]
theorem LI.derive {n : Nat} {A A1 : Nat → Nat → Int32} {J J1 : Nat → Nat → Int64} {G G1 : Nat → Nat → Int} (h : LI n A J G) (hC : CAll n A1 J1 G1) (hG : ∀ k j, k < 43 ∨ 45 < k → G1 k j = G k j) (hd : ∀ k, k < 8 → A1 32 k = nI (dN G1 k)) (hA : ∀ k, 28 ≤ k → k ≠ 32 → A1 k = A k) : LI n A1 J1 G1 := by
  obtain ⟨a, b, c, d, e, c1, c2, f0, f1, f2, f3, f4⟩ := id h
  refine h.mk hC (hA 28 (by omega) (by omega)) (fun k j z z2 => hG k j (by omega)) (fun j hj => ?_) hd (e.same (hG _ _ (by omega)) (fun j _ _ => hG _ _ (by omega)) (fun k j _ _ => hG _ _ (by omega)) (fun k j _ _ => hG _ _ (by omega))) (by rw [hA 31 (by omega) (by omega)]) (by rw [hA 31 (by omega) (by omega), hG _ _ (by omega)]; exact f0) ⟨c1, by rw [hA 31 (by omega) (by omega)]; exact f1, by rw [hG _ _ (by omega), hG _ _ (by omega), hG _ _ (by omega)]; exact f4⟩
  rw [hA 30 (by omega) (by omega), hG 35 j (by omega)]; exact c j hj
