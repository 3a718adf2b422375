/-! ===== numbers of the law ===== -/
theorem nI_nz {k : Nat} (h : 0 < k) (h2 : k < 2147483648) : ¬ nI k = 0 := fun q => by
  have h1 := nI_toInt (n := k) h2
  rw [q, Int32.toInt_zero] at h1
  omega
theorem ret_i {a b : Int} (h : a = b) : some (Value.int (zI a)) = some (.int (zI b)) := by rw [h]
theorem ret_n {k : Nat} {b : Int} (h : (k : Int) = b) : some (Value.int (nI k)) = some (.int (zI b)) := by rw [← h, zI_n]
theorem ret_nn {k b : Nat} (h : k = b) : some (Value.int (nI k)) = some (.int (nI b)) := by rw [h]
/-- counting bits by taking the lowest away -/
theorem nCnt_half (x k : Nat) : nCnt x (k + 1) = (if x.testBit 0 then 1 else 0) + nCnt (x / 2) k := by
  induction k with
  | zero => simp [nCnt]
  | succ k ih =>
    show nCnt x (k + 1) + (if x.testBit (k + 1) then 1 else 0) = _
    rw [ih, Nat.testBit_succ]
    show _ = _ + (nCnt (x / 2) k + (if (x / 2).testBit k then 1 else 0))
    omega
theorem nCnt_ker (k : Nat) : ∀ r : Nat, 0 < r → r < 2 ^ k → nCnt (r &&& (r - 1)) k + 1 = nCnt r k := by
  induction k with
  | zero => intro r h h2; omega
  | succ k ih =>
    intro r h h2
    rw [nCnt_half, nCnt_half r, Nat.testBit_and, Nat.and_div_two]
    rw [Nat.pow_succ] at h2
    by_cases ho : r % 2 = 1
    · have e1 : (r - 1) / 2 = r / 2 := by omega
      have e2 : (r - 1).testBit 0 = false := by rw [Nat.testBit_zero]; simp; omega
      have e3 : r.testBit 0 = true := by rw [Nat.testBit_zero]; simp; omega
      rw [e1, e2, e3, Nat.and_self]
      simp
      omega
    · have e1 : (r - 1) / 2 = r / 2 - 1 := by omega
      have e3 : r.testBit 0 = false := by rw [Nat.testBit_zero]; simp; omega
      rw [e1, e3]
      have := ih (r / 2) (by omega) (by omega)
      simp
      omega
theorem nCnt_0 (k : Nat) : nCnt 0 k = 0 := by
  induction k with
  | zero => rfl
  | succ k ih =>
    show nCnt 0 k + _ = _
    rw [ih, Nat.zero_testBit]
    rfl
theorem many_0 : nCnt (lnat 0) 64 = 0 := by
  rw [show lnat 0 = 0 from rfl]
  exact nCnt_0 64
theorem many_s {r : Int64} (h : ¬ r = 0) : nCnt (lnat (r &&& (r - 1))) 64 + 1 = nCnt (lnat r) 64 := by
  have h0 : 0 < lnat r := by
    rcases Nat.eq_zero_or_pos (lnat r) with z | z
    · exact absurd (lnat_inj (z.trans (show 0 = lnat 0 from rfl))) h
    · exact z
  rw [ln_and, ln_sub (show lnat 1 ≤ lnat r from h0), show lnat 1 = 1 from rfl]
  exact nCnt_ker 64 _ h0 (lnat_lt r)
/-! ===== the derived points as the law writes them down ===== -/
def dN (G : Nat → Nat → Int) (k : Nat) : Nat := if G 43 k = -1 then 0 else ((G 43 k).toNat + 1) * 1048576 + (G 44 k).toNat * 1024 + (G 45 k).toNat
theorem dN_0 {G : Nat → Nat → Int} (h : mDvOk G) (k : Nat) : dN G k = 0 ↔ G 43 k = -1 := by
  unfold dN
  obtain ⟨a, b, c⟩ := h k
  split <;> omega
theorem dN_lt {G : Nat → Nat → Int} (h : mDvOk G) (k : Nat) : dN G k < 6291456 := by
  unfold dN
  obtain ⟨a, b, c⟩ := h k
  split <;> omega
theorem dN_sh {G : Nat → Nat → Int} (h : mDvOk G) (k : Nat) : nI (dN G k) >>> (nI 10 &&& 31) = nI (dN G k / 1024) := by
  have h2 := dN_lt h k
  have := z_shr (a := (dN G k : Int)) (s := 10) (by omega) (by omega) (by decide) (by decide)
  rw [zI_n] at this
  refine this.trans ?_
  rw [← zI_n]
  congr 1
theorem n_and {a : Nat} (h : a < 2147483648) : nI a &&& nI 1023 = nI (a % 1024) := by
  have e : (nI 1023 : Int32).toBitVec.toNat = 2 ^ 10 - 1 := by decide
  have := ln_low ((nI a).toInt64) 10 (by decide) e
  rw [ln_i h] at this
  refine Eq.trans ?_ this
  congr 1
  rw [zL_n2l h, zL_l2i, zI_n]
theorem dN_one {G : Nat → Nat → Int} (h : mDvOk G) {k : Nat} (hk : G 43 k ≠ -1) : nI (dN G k / 1024) &&& nI 1023 = nI (G 44 k).toNat := by
  have h2 := dN_lt h k
  rw [n_and (by omega)]
  congr 1
  unfold dN
  obtain ⟨a, b, c⟩ := h k
  rw [if_neg hk]
  omega
theorem dN_other {G : Nat → Nat → Int} (h : mDvOk G) {k : Nat} (hk : G 43 k ≠ -1) : nI (dN G k) &&& nI 1023 = nI (G 45 k).toNat := by
  have h2 := dN_lt h k
  rw [n_and (by omega)]
  congr 1
  unfold dN
  obtain ⟨a, b, c⟩ := h k
  rw [if_neg hk]
  omega
theorem dN_op {G : Nat → Nat → Int} (h : mDvOk G) {k : Nat} (hk : G 43 k ≠ -1) : nI (dN G k) >>> (nI 20 &&& 31) = nI ((G 43 k).toNat + 1) := by
  have h2 := dN_lt h k
  have := z_shr (a := (dN G k : Int)) (s := 20) (by omega) (by omega) (by decide) (by decide)
  rw [zI_n] at this
  refine this.trans ?_
  rw [← zI_n]
  congr 1
  unfold dN
  obtain ⟨a, b, c⟩ := h k
  rw [if_neg hk]
  simp
  omega
theorem om_n {o : Nat} (h : o < 100) : om (o : Int) = 0 := om_0 (by omega)
theorem shl_omn {o : Nat} (h : 100 ≤ o) (h2 : o ≤ 107) : nI 1 <<< (nI (o - 100) &&& 31) = nI (om (o : Int)) := by
  have := shl_om (o := (o : Int)) (by omega) (by omega)
  rw [← this, show ((o : Int) - 100) = ((o - 100 : Nat) : Int) from by omega, zI_n]
theorem CAll.dersG {n : Nat} {A A' : Nat → Nat → Int32} {J : Nat → Nat → Int64} {G : Nat → Nat → Int} (h : CAll n A J G) (hA : ∀ k, k < 12 ∨ 28 ≤ k ∨ k % 2 = 0 → A' k = A k) : CAll n A' J G := by
  obtain ⟨hct, hn, hT, hFs, hpr, hz, hU, hD, hso, hse, hli, hsy, hde, hcd, hok, hdv, hdr, hsn, hol, hln⟩ := h
  exact ⟨by rw [hA 1 (by omega)]; exact hct, hn, hT, fun i hi => (hFs i hi).to (hA _ (by omega)) (hA _ (by omega)) (fun _ _ _ _ _ _ => rfl), hpr, hz, hU, hD, hso, hse.to (by rw [hA 6 (by omega)]) rfl rfl rfl (fun _ _ _ _ => rfl) (fun _ => rfl), hli.to (hA 4 (by omega)) (hA 5 (by omega)) rfl (fun _ => rfl), hsy.to (hA 7 (by omega)) (hA 8 (by omega)) rfl (fun _ => rfl) (fun _ _ _ => rfl), hde.to (hA 9 (by omega)) (fun _ _ _ => rfl), hcd.to (fun i hi => hA _ (by omega)) (fun _ _ _ _ => rfl), hok, hdv, hdr, hsn, hol, hln⟩
