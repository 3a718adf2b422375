theorem z_and255 (c : Int) : zI c &&& nI 255 = zI (c % 256) := by
  rw [pk_and _ 8 (by decide), ← zI_n]
  congr 1
  have h1 : (zI c).toBitVec = BitVec.ofInt 32 c := rfl
  rw [h1, BitVec.toNat_ofInt]
  omega
def CDe (A : Nat → Nat → Int32) (G : Nat → Nat → Int) : Prop := A 9 0 = zI (G 28 21) ∧ A 9 1 = zI (G 28 22) ∧ A 9 2 = zI (G 28 23) ∧ (G 28 21 ≠ 0 → A 9 3 = zI (G 28 19) ∧ A 9 4 = zI (G 28 20))
theorem CDe_dec {A1 A' : Nat → Nat → Int32} {G : Nat → Nat → Int} (h : PsOnly A' A1) (h0 : A' 9 0 = zI (G 28 21 + 1)) (h1 : A' 9 1 = zI (G 28 22 + ((mFar G - 1).toNat : Int))) (h2 : A' 9 2 = zI (G 28 23)) (h3 : A' 9 3 = zI (mK G)) (h4 : A' 9 4 = zI (mNum G)) (hr : ¬ mRep1 G) : CDe A1 (mDecT G) := by
  unfold mDecT
  rw [if_neg hr]
  unfold CDe
  rw [h 9 (by decide), h0, h1, h2, h3, h4, mDecG_21, mDecG_22, mDecG_19, mDecG_20, mDecG_k G (k := 28) (j := 23) (by omega) (by omega)]
  exact ⟨rfl, rfl, rfl, fun _ => ⟨rfl, rfl⟩⟩
theorem Dec1_pts {A A' : Nat → Nat → Int32} {G : Nat → Nat → Int} {n : Nat} (h : ∀ i : Nat, i < n → PtF A (mMissI G (mFar G - 1).toNat 0) i) (hA : ∀ k, 33 ≤ k → A' k = A k) : ∀ i : Nat, i < n → PtF A' (mDec1 G) i := fun i hi => (h i hi).to (hA _ (by omega)) (hA _ (by omega)) (fun k a b _ _ _ => by
  unfold mDec1
  rw [gu_ne _ _ _ (by omega), gu_ne _ _ _ (by omega), gu_ne _ _ _ (by omega)])
theorem Dec1_tok {G : Nat → Nat → Int} (h : TsOk G) : TsOk (mDec1 G) := h.to rfl (fun k j a b => mDec1_k G j (by omega) (by omega))
theorem Dec1_38 (G : Nat → Nat → Int) (j : Nat) : mDec1 G 38 j = G 38 j := mDec1_k G j (by decide) (by decide)
theorem Dec1_fr {G : Nat → Nat → Int} {F : Int64} (h : FrR F G (G 28 15 + 63)) : FrR F (mDec1 G) (mDec1 G 28 15 + 63) := fun q hq => by
  rw [Dec1_38]
  exact h q hq
