/-! ===== steps of all of it ===== -/
theorem CAll.line {n : Nat} {A A' : Nat → Nat → Int32} {J : Nat → Nat → Int64} {G G' : Nat → Nat → Int} (h : CAll n A J G) (hA : ∀ k, k ≠ 4 → k ≠ 5 → A' k = A k) (hG : ∀ k j, k ≠ 37 → ¬ (k = 28 ∧ j = 10) → G' k j = G k j) (hl : CLi A' G' (G 28 12).toNat) (h10 : 0 ≤ G' 28 10 ∧ G 28 12 + G' 28 10 ≤ 8 * G 28 9) (h37 : ∀ j, G' 37 j = 0 ∨ G' 37 j = 1) : CAll n A' J G' := by
  obtain ⟨hct, hn, hT, hFs, hpr, hz, hU, hD, hso, hse, hli, hsy, hde, hcd, hok, hdv, hdr, hsn, hol, hln⟩ := h
  have hT2 : TsOk G' := hT.to (hG _ _ (by omega) (by omega)) (fun k j a b => hG k j (by omega) (by omega))
  refine ⟨by rw [hA 1 (by omega) (by omega)]; exact hct, by rw [hG _ _ (by omega) (by omega)]; exact hn, hT2, fun i hi => (hFs i hi).to (hA _ (by omega) (by omega)) (hA _ (by omega) (by omega)) (fun k _ _ _ _ _ => hG k i (by omega) (by omega)), hpr.to (hG _ _ (by omega) (by omega)) (fun k j a b => hG k j (by omega) (by omega)), fun i hi => by rw [hG _ _ (by omega) (by omega)]; exact hz i hi, hU.to rfl (hG _ _ (by omega) (by omega)) (fun k j a b => hG k j (by omega) (by omega)), hD.to (hG _ _ (by omega) (by omega)) (fun k j a b => hG k j (by omega) (by omega)), fun j => by rw [hG _ _ (by omega) (by omega)]; exact hso j,
    hse.to (by rw [hA 6 (by omega) (by omega)]) rfl (hG _ _ (by omega) (by omega)) (hG _ _ (by omega) (by omega)) (fun k j a b => hG k j (by omega) (by omega)) (fun j => hG _ _ (by omega) (by omega)), by rw [hG 28 12 (by omega) (by omega)]; exact hl, hsy.to (hA 7 (by omega) (by omega)) (hA 8 (by omega) (by omega)) rfl (fun j => hG _ _ (by omega) (by omega)) (fun j _ _ => hG _ _ (by omega) (by omega)), hde.to (hA 9 (by omega) (by omega)) (fun j _ _ => hG _ _ (by omega) (by omega)), hcd.to (fun i hi => hA _ (by omega) (by omega)) (fun k j _ _ => hG _ _ (by omega) (by omega)), hok.to hT2 (fun j => hG _ _ (by omega) (by omega)) (fun j _ _ => hG _ _ (by omega) (by omega)) (fun j => hG _ _ (by omega) (by omega)) (fun j => hG _ _ (by omega) (by omega)), hdv.to (fun k j _ _ => hG _ _ (by omega) (by omega)), hdr.to (fun j => hG _ _ (by omega) (by omega)) (fun j => hG _ _ (by omega) (by omega)) (fun k j _ _ => hG _ _ (by omega) (by omega)), by rw [hG _ _ (by omega) (by omega)]; exact hsn, by rw [hG 28 12 (by omega) (by omega), hG 28 9 (by omega) (by omega)]; exact h10, h37⟩
theorem CAll.mid {n : Nat} {A A' : Nat → Nat → Int32} {J : Nat → Nat → Int64} {G G' : Nat → Nat → Int} (h : CAll n A J G) (hA : ∀ k, k < 12 ∨ 28 ≤ k → A' k = A k) (hG : ∀ k j, k < 43 ∨ 48 < k → G' k j = G k j) (hcd2 : CDv A' G') (hdv2 : mDvOk G') (hdr2 : mDrOk G') : CAll n A' J G' := by
  obtain ⟨hct, hn, hT, hFs, hpr, hz, hU, hD, hso, hse, hli, hsy, hde, hcd, hok, hdv, hdr, hsn, hol, hln⟩ := h
  have hT2 : TsOk G' := hT.to (hG _ _ (by omega)) (fun k j a b => hG k j (by omega))
  exact ⟨by rw [hA 1 (by omega)]; exact hct, by rw [hG _ _ (by omega)]; exact hn, hT2, fun i hi => (hFs i hi).to (hA _ (by omega)) (hA _ (by omega)) (fun k _ _ _ _ _ => hG k i (by omega)), hpr.to (hG _ _ (by omega)) (fun k j a b => hG k j (by omega)), fun i hi => by rw [hG _ _ (by omega)]; exact hz i hi, hU.to rfl (hG _ _ (by omega)) (fun k j a b => hG k j (by omega)), hD.to (hG _ _ (by omega)) (fun k j a b => hG k j (by omega)), fun j => by rw [hG _ _ (by omega)]; exact hso j,
    hse.to (by rw [hA 6 (by omega)]) rfl (hG _ _ (by omega)) (hG _ _ (by omega)) (fun k j a b => hG k j (by omega)) (fun j => hG _ _ (by omega)), by rw [hG 28 12 (by omega)]; exact hli.to (hA 4 (by omega)) (hA 5 (by omega)) (hG _ _ (by omega)) (fun j => hG _ _ (by omega)), hsy.to (hA 7 (by omega)) (hA 8 (by omega)) rfl (fun j => hG _ _ (by omega)) (fun j _ _ => hG _ _ (by omega)), hde.to (hA 9 (by omega)) (fun j _ _ => hG _ _ (by omega)), hcd2, hok.to hT2 (fun j => hG _ _ (by omega)) (fun j _ _ => hG _ _ (by omega)) (fun j => hG _ _ (by omega)) (fun j => hG _ _ (by omega)), hdv2, hdr2, by rw [hG _ _ (by omega)]; exact hsn, by rw [hG 28 12 (by omega), hG 28 9 (by omega), hG 28 10 (by omega)]; exact hol, fun j => by rw [hG _ _ (by omega)]; exact hln j⟩
theorem CAll.flip {n : Nat} {A : Nat → Nat → Int32} {J : Nat → Nat → Int64} {G : Nat → Nat → Int} (h : CAll n A J G) {i : Nat} (hi : (i : Int) < G 28 10) : CAll n (gu A 5 ((G 28 12).toNat + i) (zI (1 - G 37 i))) J (gu G 37 i (1 - G 37 i)) := by
  have h0 := h
  obtain ⟨hct, hn, hT, hFs, hpr, hz, hU, hD, hso, hse, hli, hsy, hde, hcd, hok, hdv, hdr, hsn, hol, hln⟩ := h
  obtain ⟨l1, l2, l3⟩ := hli
  have hG : ∀ k j, k ≠ 37 → gu G 37 i (1 - G 37 i) k j = G k j := fun k j hk => by rw [gu_ne _ _ _ hk]
  refine h0.line (fun k _ hk => gu_ne _ _ _ hk) (fun k j hk _ => hG k j hk) ⟨l1, ?_, fun j hj => ?_⟩ ?_ (fun j => ?_)
  · rw [hG _ _ (by omega)]; exact l2
  · rw [hG _ _ (by omega)] at hj
    rw [gu_at, gu_at]
    by_cases hji : j = i
    · subst hji
      rw [if_pos ⟨rfl, rfl⟩, if_pos ⟨rfl, rfl⟩]
    · rw [if_neg (by omega), if_neg (by omega)]; exact l3 j hj
  · rw [hG _ _ (by omega)]; exact hol
  · rw [gu_at]
    split
    · have := hln i; omega
    · exact hln j
theorem CAll.cut {n : Nat} {A : Nat → Nat → Int32} {J : Nat → Nat → Int64} {G : Nat → Nat → Int} (h : CAll n A J G) {ix cn h1 e1 : Nat} (hc : 1 ≤ cn) (hi : ((ix + cn : Nat) : Int) ≤ G 28 10) (hh : h1 = (G 28 12).toNat) (he : e1 = (G 28 12).toNat + (G 28 10).toNat) :
    CAll n (gu (gr A 5 (va_cpy (A 5) (A 5) (h1 + ix + cn) (h1 + ix) (e1 - (h1 + ix + cn)))) 4 2 (nI (e1 - cn))) J (mDrop G ix cn (G 28 10 - (cn : Int)).toNat) := by
  subst hh; subst he
  have h0 := h
  obtain ⟨hct, hn, hT, hFs, hpr, hz, hU, hD, hso, hse, hli, hsy, hde, hcd, hok, hdv, hdr, hsn, hol, hln⟩ := h
  obtain ⟨l1, l2, l3⟩ := hli
  have hG : ∀ k j, k ≠ 37 → ¬ (k = 28 ∧ j = 10) → mDrop G ix cn (G 28 10 - (cn : Int)).toNat k j = G k j := fun k j hk hk2 => by
    unfold mDrop
    rw [gr_ne _ _ hk, gu_at, if_neg hk2]
  have h10 : mDrop G ix cn (G 28 10 - (cn : Int)).toNat 28 10 = G 28 10 - (cn : Int) := by
    unfold mDrop
    rw [gr_ne _ _ (by decide), gu_at, if_pos ⟨rfl, rfl⟩]
  have h37 : ∀ j, mDrop G ix cn (G 28 10 - (cn : Int)).toNat 37 j = if ix ≤ j ∧ j < (G 28 10 - (cn : Int)).toNat then G 37 (j + cn) else G 37 j := fun j => by
    unfold mDrop
    rw [gr_self]
  refine h0.line (fun k hk4 hk5 => by rw [gu_ne _ _ _ hk4, gr_ne _ _ hk5]) hG ⟨?_, ?_, fun j hj => ?_⟩ ?_ (fun j => ?_)
  · rw [gu_at, if_neg (by omega), gr_ne _ _ (by decide)]; exact l1
  · rw [gu_at, if_pos ⟨rfl, rfl⟩, h10]
    congr 1
    omega
  · rw [h10] at hj
    rw [h37, gu_ne _ _ _ (by decide), gr_self]
    unfold va_cpy
    by_cases hji : ix ≤ j
    · rw [if_pos (by omega), if_pos (by omega), show (G 28 12).toNat + ix + cn + ((G 28 12).toNat + j - ((G 28 12).toNat + ix)) = (G 28 12).toNat + (j + cn) from by omega]
      exact l3 _ (by omega)
    · rw [if_neg (by omega), if_neg (by omega)]
      exact l3 _ (by omega)
  · rw [h10]; omega
  · rw [h37]
    split
    · exact hln _
    · exact hln _
theorem CAll.derive {n : Nat} {A : Nat → Nat → Int32} {J : Nat → Nat → Int64} {G : Nat → Nat → Int} (h : CAll n A J G) {i : Nat} {op f s : Int} (hi : i < 8) (ho : 0 ≤ op ∧ op ≤ 4) (hf : isOp f) (hs : isOp s) :
    CAll n (gu (gu (gu (gu A (12 + 2 * i) 0 (nI 1)) (12 + 2 * i) 1 (zI op)) (12 + 2 * i) 2 (zI f)) (12 + 2 * i) 3 (zI s)) J (gu (gu (gu G 43 i op) 44 i f) 45 i s) := by
  have h0 := h
  obtain ⟨hct, hn, hT, hFs, hpr, hz, hU, hD, hso, hse, hli, hsy, hde, hcd, hok, hdv, hdr, hsn, hol, hln⟩ := h
  have hG : ∀ k j, k ≠ 43 → k ≠ 44 → k ≠ 45 → gu (gu (gu G 43 i op) 44 i f) 45 i s k j = G k j := fun k j a b c9 => by rw [gu_ne _ _ _ c9, gu_ne _ _ _ b, gu_ne _ _ _ a]
  refine h0.mid (fun k hk => by rw [gu_ne _ _ _ (by omega), gu_ne _ _ _ (by omega), gu_ne _ _ _ (by omega), gu_ne _ _ _ (by omega)]) (fun k j hk => hG k j (by omega) (by omega) (by omega)) (fun q hq => ?_) (fun q => ?_) (hdr.to (fun j => hG _ _ (by omega) (by omega) (by omega)) (fun j => hG _ _ (by omega) (by omega) (by omega)) (fun k j _ _ => hG _ _ (by omega) (by omega) (by omega)))
  · by_cases hqi : q = i
    · subst hqi
      simp only [gu_at]
      have ho2 : ¬ op = -1 := by omega
      simp [ho2]
    · rw [gu_ne _ (k' := 12 + 2 * q) _ _ (by omega), gu_ne _ (k' := 12 + 2 * q) _ _ (by omega), gu_ne _ (k' := 12 + 2 * q) _ _ (by omega), gu_ne _ (k' := 12 + 2 * q) _ _ (by omega)]
      simp only [gu_at]
      simpa [hqi] using hcd q hq
  · have h3 := hdv q
    simp only [gu_at]
    by_cases hqi : q = i
    · subst hqi
      simp only [true_and, and_true, if_true, if_false, show ¬ (43 = 45) from by decide, show ¬ (43 = 44) from by decide, show ¬ (44 = 45) from by decide, false_and]
      exact ⟨Or.inr ho, hf, hs⟩
    · simpa [hqi] using h3
theorem CAll.ders {n : Nat} {A A' : Nat → Nat → Int32} {J : Nat → Nat → Int64} {G : Nat → Nat → Int} (h : CAll n A J G) (hA : ∀ k, k < 12 ∨ 28 ≤ k ∨ k % 2 = 0 → A' k = A k) : CAll n A' J (mDers G) := by
  have h0 := h
  obtain ⟨hct, hn, hT, hFs, hpr, hz, hU, hD, hso, hse, hli, hsy, hde, hcd, hok, hdv, hdr, hsn, hol, hln⟩ := h
  have hg : gSt G (mDers G) := (gSt.clr hdr).derR hdv 8
  refine h0.mid (fun k hk => hA k (by omega)) (fun k j hk => hg.1 k j (by omega) (by omega) (by omega)) ((hg.cd hcd).to (fun i hi => hA _ (by omega)) (fun _ _ _ _ => rfl)) (hg.dv hdv) hg.2.1
/-- a word is sent -/
theorem CAll.sw {n : Nat} {A A' : Nat → Nat → Int32} {J J' : Nat → Nat → Int64} {G : Nat → Nat → Int} (h : CAll n A J G) (h9 : G 28 9 < 1000) (hA : ∀ k, k ≠ 4 → k ≠ 5 → k ≠ 6 → A' k = A k) (hJ : ∀ k j, ¬ (k = 6 ∧ j = 1) → J' k j = J k j) (hse2 : CSe A' J' (mSW G)) (hli2 : CLi A' (mSW G) (G 28 12).toNat) : CAll n A' J' (mSW G) := by
  obtain ⟨hct, hn, hT, hFs, hpr, hz, hU, hD, hso, hse, hli, hsy, hde, hcd, hok, hdv, hdr, hsn, hol, hln⟩ := h
  have hG : ∀ k j, k ≠ 36 → k ≠ 37 → ¬ (k = 28 ∧ (j = 9 ∨ j = 10)) → mSW G k j = G k j := fun k j a b c9 => mSW_k G a b c9
  have hT2 : TsOk (mSW G) := hT.to (hG _ _ (by omega) (by omega) (by omega)) (fun k j a b => hG k j (by omega) (by omega) (by omega))
  have hta := hok.2.2.1
  refine ⟨by rw [hA 1 (by omega) (by omega) (by omega)]; exact hct, by rw [hG _ _ (by omega) (by omega) (by omega)]; exact hn, hT2, fun i hi => (hFs i hi).to (hA _ (by omega) (by omega) (by omega)) (hA _ (by omega) (by omega) (by omega)) (fun k _ _ _ _ _ => hG k i (by omega) (by omega) (by omega)), hpr.to (hG _ _ (by omega) (by omega) (by omega)) (fun k j a b => hG k j (by omega) (by omega) (by omega)), fun i hi => by rw [hG _ _ (by omega) (by omega) (by omega)]; exact hz i hi, hU.to (funext fun r => hJ 3 r (by omega)) (hG _ _ (by omega) (by omega) (by omega)) (fun k j a b => hG k j (by omega) (by omega) (by omega)), hD.to (hG _ _ (by omega) (by omega) (by omega)) (fun k j a b => hG k j (by omega) (by omega) (by omega)), (mSend_ok hT hpr hso 1).2.2.1,
    hse2, by rw [hG 28 12 (by omega) (by omega) (by omega)]; exact hli2, hsy.to (hA 7 (by omega) (by omega) (by omega)) (hA 8 (by omega) (by omega) (by omega)) (hJ 7 2 (by omega)) (fun j => hG _ _ (by omega) (by omega) (by omega)) (fun j _ _ => hG _ _ (by omega) (by omega) (by omega)), hde.to (hA 9 (by omega) (by omega) (by omega)) (fun j _ _ => hG _ _ (by omega) (by omega) (by omega)), hcd.to (fun i hi => hA _ (by omega) (by omega) (by omega)) (fun k j _ _ => hG _ _ (by omega) (by omega) (by omega)), hok.to hT2 (fun j => hG _ _ (by omega) (by omega) (by omega)) (fun j _ _ => hG _ _ (by omega) (by omega) (by omega)) (fun j => hG _ _ (by omega) (by omega) (by omega)) (fun j => hG _ _ (by omega) (by omega) (by omega)), hdv.to (fun k j _ _ => hG _ _ (by omega) (by omega) (by omega)), hdr.to (fun j => hG _ _ (by omega) (by omega) (by omega)) (fun j => hG _ _ (by omega) (by omega) (by omega)) (fun k j _ _ => hG _ _ (by omega) (by omega) (by omega)), by rw [mSW_9]; omega, by rw [mSW_9, mSW_10, hG 28 12 (by omega) (by omega) (by omega)]; omega, fun j => ?_⟩
  show mSW2 G (mSW1 G) 8 37 j = 0 ∨ mSW2 G (mSW1 G) 8 37 j = 1
  rw [SW2_37]
  split
  · exact mBit_01 _ _ _
  · exact hln j
