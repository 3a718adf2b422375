/-! ===== what the law asks of the operands ===== -/
def LAn (G : Nat → Nat → Int) (k a : Nat) (o : Int) : Prop := (G 43 k = -1 ∧ a = 0) ∨ (G 43 k ≠ -1 ∧ (a : Int) = o)
def LHs (G : Nat → Nat → Int) (k : Nat) (o x : Int) : Prop := ((G 43 k ≠ -1 ∧ mHas (mDers G) o) ∧ x = mVo (mDers G) o) ∨ (¬ (G 43 k ≠ -1 ∧ mHas (mDers G) o) ∧ x = -5000000)
theorem isOp_n {a : Nat} {o : Int} (h : (a : Int) = o) (h2 : isOp o) : a ≤ 107 ∧ (a < 100 → a ≤ 11) := by omega
theorem OpR {G : Nat → Nat → Int} {k : Nat} (h : (G 43 k = -1 ∨ (0 ≤ G 43 k ∧ G 43 k ≤ 4)) ∧ isOp (G 44 k) ∧ isOp (G 45 k)) (h43 : G 43 k ≠ -1) : 0 ≤ G 43 k ∧ G 43 k ≤ 4 := h.1.resolve_left h43
theorem LHs_0 {G : Nat → Nat → Int} {k : Nat} {o : Int} (h : G 43 k = -1) : LHs G k o (-5000000) := Or.inr ⟨fun z => z.1 h, rfl⟩
theorem has_d {G : Nat → Nat → Int} {a : Nat} {o : Int} (ho : (a : Int) = o) (h : 100 ≤ a) : mHas (mDers G) o ↔ mDers G 46 (a - 100) = 1 := by
  have e : (o - 100).toNat = a - 100 := by omega
  unfold mHas
  rw [e]
  constructor
  · rintro (⟨-, h9⟩ | ⟨h9, -⟩)
    · exact h9
    · omega
  · intro h9; exact Or.inl ⟨by omega, h9⟩
theorem has_p {G : Nat → Nat → Int} {a n : Nat} {o : Int} (ho : (a : Int) = o) (h : a < 100) (hn : G 28 0 = (n : Int)) (h41 : 0 ≤ G 41 a) : mHas (mDers G) o ↔ a < n ∧ G 41 a ≠ 0 := by
  have e : o.toNat = a := by omega
  unfold mHas
  rw [e, mDers_k G (q := 28) 0 (by omega), mDers_k G (q := 41) a (by omega), hn]
  constructor
  · rintro (⟨h9, -⟩ | ⟨-, h9, h8⟩)
    · omega
    · exact ⟨by omega, by omega⟩
  · intro h9; exact Or.inr ⟨by omega, by omega, by omega⟩
theorem LHs_d {G : Nat → Nat → Int} {k a : Nat} {o x : Int} (h43 : G 43 k ≠ -1) (ho : (a : Int) = o) (h : 100 ≤ a) (hx : (if mDers G 46 (a - 100) = 1 then mDers G 47 (a - 100) else -5000000) = x) : LHs G k o x := by
  by_cases hh : mDers G 46 (a - 100) = 1
  · rw [if_pos hh] at hx
    refine Or.inl ⟨⟨h43, (has_d ho h).mpr hh⟩, ?_⟩
    unfold mVo
    rw [if_pos (by omega), show (o - 100).toNat = a - 100 from by omega, hx]
  · rw [if_neg hh] at hx
    exact Or.inr ⟨fun z => hh ((has_d ho h).mp z.2), hx.symm⟩
theorem LHs_p {G : Nat → Nat → Int} {k a n : Nat} {o x : Int} (h43 : G 43 k ≠ -1) (ho : (a : Int) = o) (h : a < 100) (hn : G 28 0 = (n : Int)) (han : a < n) (h41 : 0 ≤ G 41 a) (hx : (if G 41 a = 0 then -5000000 else G 39 a) = x) : LHs G k o x := by
  by_cases hh : G 41 a = 0
  · rw [if_pos hh] at hx
    exact Or.inr ⟨fun z => ((has_p ho h hn h41).mp z.2).2 hh, hx.symm⟩
  · rw [if_neg hh] at hx
    refine Or.inl ⟨⟨h43, (has_p ho h hn h41).mpr ⟨han, hh⟩⟩, ?_⟩
    unfold mVo
    rw [if_neg (by omega), show o.toNat = a from by omega, mDers_k G (q := 39) a (by omega), hx]
theorem LHs_n {G : Nat → Nat → Int} {k a n : Nat} {o : Int} (ho : (a : Int) = o) (h : a < 100) (hn : G 28 0 = (n : Int)) (han : n ≤ a) : LHs G k o (-5000000) := by
  refine Or.inr ⟨fun z => ?_, rfl⟩
  rcases z.2 with ⟨h9, -⟩ | ⟨-, h9, -⟩
  · omega
  · rw [mDers_k G (q := 28) 0 (by omega), hn] at h9; omega
theorem LHs_none {G : Nat → Nat → Int} {k : Nat} {o x : Int} (h : LHs G k o x) (hx : x = -5000000) (hr : mDrOk (mDers G)) : ¬ (G 43 k ≠ -1 ∧ mHas (mDers G) o) := by
  rcases h with ⟨-, h9⟩ | ⟨h9, -⟩
  · have := mVo_r hr o; omega
  · exact h9
theorem LHs_some {G : Nat → Nat → Int} {k : Nat} {o x : Int} (h : LHs G k o x) (hx : ¬ x = -5000000) : (G 43 k ≠ -1 ∧ mHas (mDers G) o) ∧ x = mVo (mDers G) o := h.resolve_right (fun z => hx z.2)
theorem mCan_k (G : Nat → Nat → Int) (k : Nat) : mCan (mDers G) k ↔ G 43 k ≠ -1 ∧ mHas (mDers G) (G 44 k) ∧ mHas (mDers G) (G 45 k) := by
  unfold mCan
  rw [mDers_k G (q := 43) k (by omega), mDers_k G (q := 44) k (by omega), mDers_k G (q := 45) k (by omega)]
theorem mVl_k (G : Nat → Nat → Int) (k : Nat) : mVl (mDers G) k = mMade (G 43 k) (mVo (mDers G) (G 44 k)) (mVo (mDers G) (G 45 k)) := by
  unfold mVl
  rw [mDers_k G (q := 43) k (by omega), mDers_k G (q := 44) k (by omega), mDers_k G (q := 45) k (by omega)]
theorem mTm_k (G : Nat → Nat → Int) (k : Nat) : mTm (mDers G) k = if mTo (mDers G) (G 45 k) < mTo (mDers G) (G 44 k) then mTo (mDers G) (G 44 k) else mTo (mDers G) (G 45 k) := by
  unfold mTm
  rw [mDers_k G (q := 44) k (by omega), mDers_k G (q := 45) k (by omega)]
theorem LTm_d {G : Nat → Nat → Int} {a : Nat} {o x : Int} (ho : (a : Int) = o) (h : 100 ≤ a) (hh : mHas (mDers G) o) (hx : (if mDers G 46 (a - 100) = 1 then mDers G 48 (a - 100) else -5000000) = x) : x = mTo (mDers G) o := by
  rw [if_pos ((has_d ho h).mp hh)] at hx
  unfold mTo
  rw [if_pos (by omega), show (o - 100).toNat = a - 100 from by omega, hx]
theorem LTm_p {G : Nat → Nat → Int} {a : Nat} {o x : Int} (ho : (a : Int) = o) (h : a < 100) (hh : mHas (mDers G) o) (hx : (if G 41 a = 0 then -5000000 else G 40 a) = x) : x = mTo (mDers G) o := by
  have h41 : G 41 a ≠ 0 := by
    rcases hh with ⟨h9, -⟩ | ⟨-, -, h9⟩
    · omega
    · rw [show o.toNat = a from by omega, mDers_k G (q := 41) a (by omega)] at h9; omega
  rw [if_neg h41] at hx
  unfold mTo
  rw [if_neg (by omega), show o.toNat = a from by omega, mDers_k G (q := 40) a (by omega), hx]
theorem mOp_r {op a b : Int} (ha : -1000000 ≤ a ∧ a ≤ 1000000) (hb : -1000000 ≤ b ∧ b ≤ 1000000) : -1000000000000 ≤ mOp op a b ∧ mOp op a b ≤ 1000000000000 := by
  have := z_mul6 ha hb
  unfold mOp
  (repeat' split) <;> omega
