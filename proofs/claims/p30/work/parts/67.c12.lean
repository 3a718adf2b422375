abbrev PX2_computeOne (ad : Nat → Nat) (A : Nat → Nat → Int32) (J : Nat → Nat → Int64) (G : Nat → Nat → Int) (iq : Nat) : Option Value → (Nat → Nat → Int32) → (Nat → Nat → Int64) → Prop := fun v_ A1 J1 => (v_ = none ∧ J = J1 ∧ (CRs A1 (mDer1 G iq)) ∧ (∀ k, k ≠ 12 + 2 * iq + 1 → A1 k = A k))
set_option maxHeartbeats 4000000 in
set_option maxRecDepth 100000 in
theorem cX2_computeOneC (l : Launch) (D : va_G) (cy : Nat → ClassId) (base : Nat) (ad : Nat → Nat) (n : Nat) (A : Nat → Nat → Int32) (J : Nat → Nat → Int64) (G : Nat → Nat → Int) (iq : Nat) (hcd : CDv A G) (hdv : mDvOk G) (hct : A 1 1 = nI n ∧ n ≤ 12) (hn : G 28 0 = (n : Int)) (hT : TsOk G) (hFs : ∀ i : Nat, i < n → PtF A G i) (hiq : iq < 8) (hcr : CRs A G) (hdr : mDrOk G) (h41 : ∀ i : Nat, 0 ≤ G 41 i) (hI : gInv G) : gMet l yX2_computeOne wsX2_computeOne ({ frames := 3, cells := 0, slots := 0, locals := 107 } : Room) D cy base ad n A J [.ref (ad 10), .ref (ad (12 + 2 * iq)), .ref (ad 1)] (PX2_computeOne ad A J G iq) := by
  refine g_ofW (cc := cX2_computeOne) (maxL := 5) (ret := none) (by decide) rfl (Nat.le_of_ble_eq_true rfl) ?_
  intro pM eM sM mM aM bM methM cM H locs ls hx hb hr hts hown hlocks hml hE hG hl
  have hl : lv_has ls 5 [(0, .ref (ad 10)), (1, .ref (ad (12 + 2 * iq))), (2, .ref (ad 1))] := hl
  have hinX1 : ∀ w ∈ u_ws RX1 TX1 5, w ∈ wsX2_computeOne := by decide +kernel
  have hinX2 : ∀ w ∈ u_ws RX2 TX2 1, w ∈ wsX2_computeOne := by decide +kernel
  have hinX4 : ∀ w ∈ u_ws RX4 TX4 10, w ∈ wsX2_computeOne := by decide +kernel
  have hinX5 : ∀ w ∈ u_ws RX5 TX5 3, w ∈ wsX2_computeOne := by decide +kernel
  have hinX6 : ∀ w ∈ u_ws RX6 TX6 3, w ∈ wsX2_computeOne := by decide +kernel
  have hdf := gDf_1 G iq
  have hdq := hdv iq
  have hd46 := (hdr iq).1
  refine lv_aload_n hx hb dX2_computeOne_0 rfl (lv_at hl 1 rfl) ?_
  refine lv_ifnull hx hb dX2_computeOne_1 ?_
  refine lv_aload_n hx hb dX2_computeOne_4 rfl (lv_at hl 1 rfl) ?_
  refine g_getN (C := RX1) (T := TX1) (NN := 5) (ci := 1) hx hb hts hinX1 hown hE hG (k := 12 + 2 * iq) (by omega) (gw_dv cy ad n _ _ (by omega)) rfl 0 (by decide) 24 rfl rfl (v := .int (A (12 + 2 * iq) 0)) rfl dX2_computeOne_5 ?_
  refine g_top (y := nI (gDf G iq)) (CDv_0 hcd hiq) ?_
  refine lv_if_eq (tgt := 21) hx hb dX2_computeOne_8 (by decide) (fun c8 => ?_) (fun c8 => ?_)
  · skip
    have c8 : (nI (gDf G iq)) = nI 0 := c8
    have c8 : (gDf G iq) = 0 := (nI_eq (by omega) (by omega)).mp c8
    have hde : mDer1 G iq = G := Der1_n (fun z9 => z9.1 (hdf.2.mp c8))
    exact g_vret hx hb hr hlocks hG ⟨rfl, rfl, (by rw [hde]; exact hcr), (fun k h => rfl)⟩ dX2_computeOne_21
  · skip
    have c8 : ¬ ((nI (gDf G iq)) = nI 0) := c8
    have c8 : ¬ ((gDf G iq) = 0) := fun z9 => c8 ((nI_eq (by omega) (by omega)).mpr z9)
    have hd43 : G 43 iq ≠ -1 := fun z9 => c8 (hdf.2.mpr z9)
    refine lv_aload_n hx hb dX2_computeOne_11 rfl (lv_at hl 1 rfl) ?_
    refine g_getN (C := RX1) (T := TX1) (NN := 5) (ci := 1) hx hb hts hinX1 hown hE hG (k := 12 + 2 * iq) (by omega) (gw_dv cy ad n _ _ (by omega)) rfl 4 (by decide) 28 rfl rfl (v := .ref (ad (12 + 2 * iq + 1))) rfl dX2_computeOne_12 ?_
    refine g_getN (C := RX6) (T := TX6) (NN := 3) (ci := 6) hx hb hts hinX6 hown hE hG (k := 12 + 2 * iq + 1) (by omega) (gw_rd cy ad n _ _ (by omega)) rfl 0 (by decide) 18 rfl rfl (v := .int (A (12 + 2 * iq + 1) 0)) rfl dX2_computeOne_15 ?_
    refine g_top (y := zI (G 46 iq)) ((hcr iq hiq).1) ?_
    refine lv_if_eq (tgt := 22) hx hb dX2_computeOne_18 (by decide) (fun c18 => ?_) (fun c18 => ?_)
    · skip
      have c18 : (zI (G 46 iq)) = nI 0 := c18
      have c18 : (G 46 iq) = ((0 : Nat) : Int) := (cmp_eq (zI_toInt (by omega) (by omega)) (nI_toInt (by omega))).mp c18
      refine lv_aload_n hx hb dX2_computeOne_22 rfl (lv_at hl 0 rfl) ?_
      refine lv_aload_n hx hb dX2_computeOne_23 rfl (lv_at hl 1 rfl) ?_
      refine g_getN (C := RX1) (T := TX1) (NN := 5) (ci := 1) hx hb hts hinX1 hown hE hG (k := 12 + 2 * iq) (by omega) (gw_dv cy ad n _ _ (by omega)) rfl 2 (by decide) 26 rfl rfl (v := .int (A (12 + 2 * iq) 2)) rfl dX2_computeOne_24 ?_
      refine g_top (y := zI (G 44 iq)) (((hcd iq hiq).2 hd43).2.2.1) ?_
      refine lv_aload_n hx hb dX2_computeOne_27 rfl (lv_at hl 2 rfl) ?_
      refine g_callV (As := [.int (zI (G 44 iq)), .ref (ad 1)]) (rest := []) (r := (RX2, TX2, 1)) ⟨hx, hb, hml, hown, hts⟩ hE hG (cX2_operandC l D cy base ad n A J n (G 44 iq) (by first | assumption | omega) (by first | assumption | omega) hdq.2.1) (cwV 2 hts gX2_computeOne_X2_operand rfl rfl rfl (by decide +kernel) ⟨Nat.le_of_ble_eq_true rfl, Nat.le_of_ble_eq_true rfl⟩) (by omega) rfl rfl rfl hl.1 rfl (Nat.le_of_ble_eq_true rfl) dX2_computeOne_28 ⟨Nat.zero_le _, Nat.zero_le _⟩ (fun v_ A28 J28 H locs hp hG => ?_)
      rcases hp with ⟨kq_28, rfl, rfl, rfl, hk_28⟩ | ⟨kq_28, rfl, rfl, rfl, hk_28⟩ | ⟨rfl, rfl, rfl, hk_28⟩
      · refine W.eq (g2 := F0 mM 31 ls [.ref (ad (12 + 2 * kq_28 + 1))]) rfl ?_
        obtain ⟨vaq, hvaq0, hvaq1, hvaq2, hvaq3⟩ := rdIs_d (o := G 44 iq) hcr (hdr kq_28).1 hk_28
        refine lv_astore_n (lv' := [(3, .ref (ad (12 + 2 * kq_28 + 1))), (0, .ref (ad 10)), (1, .ref (ad (12 + 2 * iq))), (2, .ref (ad 1))]) hx hb dX2_computeOne_31 rfl hl (by decide) rfl (fun ls hl => ?_)
        refine lv_aload_n hx hb dX2_computeOne_32 rfl (lv_at hl 1 rfl) ?_
        refine lv_aload_n hx hb dX2_computeOne_33 rfl (lv_at hl 2 rfl) ?_
        refine g_getN (C := RX1) (T := TX1) (NN := 5) (ci := 1) hx hb hts hinX1 hown hE hG (k := 12 + 2 * iq) (by omega) (gw_dv cy ad n _ _ (by omega)) rfl 3 (by decide) 27 rfl rfl (v := .int (A (12 + 2 * iq) 3)) rfl dX2_computeOne_34 ?_
        refine g_top (y := zI (G 45 iq)) (((hcd iq hiq).2 hd43).2.2.2) ?_
        refine lv_aload_n hx hb dX2_computeOne_37 rfl (lv_at hl 3 rfl) ?_
        refine g_callV (As := [.int (zI (G 45 iq)), .ref (ad 1)]) (rest := []) (r := (RX2, TX2, 1)) ⟨hx, hb, hml, hown, hts⟩ hE hG (cX2_operandC l D cy base ad n A J n (G 45 iq) (by first | assumption | omega) (by first | assumption | omega) hdq.2.2) (cwV 2 hts gX2_computeOne_X2_operand rfl rfl rfl (by decide +kernel) ⟨Nat.le_of_ble_eq_true rfl, Nat.le_of_ble_eq_true rfl⟩) (by omega) rfl rfl rfl hl.1 rfl (Nat.le_of_ble_eq_true rfl) dX2_computeOne_38 ⟨Nat.zero_le _, Nat.zero_le _⟩ (fun v_ A38 J38 H locs hp hG => ?_)
        rcases hp with ⟨kq_38, rfl, rfl, rfl, hk_38⟩ | ⟨kq_38, rfl, rfl, rfl, hk_38⟩ | ⟨rfl, rfl, rfl, hk_38⟩
        · refine W.eq (g2 := F0 mM 41 ls [.ref (ad (12 + 2 * kq_38 + 1))]) rfl ?_
          obtain ⟨vbq, hvbq0, hvbq1, hvbq2, hvbq3⟩ := rdIs_d (o := G 45 iq) hcr (hdr kq_38).1 hk_38
          refine lv_astore (lv' := [(4, .ref (ad (12 + 2 * kq_38 + 1))), (3, .ref (ad (12 + 2 * kq_28 + 1))), (0, .ref (ad 10)), (1, .ref (ad (12 + 2 * iq))), (2, .ref (ad 1))]) hx hb dX2_computeOne_41 hl (by decide) rfl (fun ls hl => ?_)
          refine lv_aload_n hx hb dX2_computeOne_43 rfl (lv_at hl 1 rfl) ?_
          refine lv_ifnull hx hb dX2_computeOne_44 ?_
          refine lv_aload hx hb dX2_computeOne_47 (lv_at hl 0 rfl) ?_
          refine lv_ifnull hx hb dX2_computeOne_49 ?_
          refine lv_aload_n hx hb dX2_computeOne_52 rfl (lv_at hl 1 rfl) ?_
          refine g_getN (C := RX6) (T := TX6) (NN := 3) (ci := 6) hx hb hts hinX6 hown hE hG (k := 12 + 2 * kq_28 + 1) (by omega) (gw_rd cy ad n _ _ (by omega)) rfl 0 (by decide) 18 rfl rfl (v := .int (A (12 + 2 * kq_28 + 1) 0)) rfl dX2_computeOne_53 ?_
          refine g_top (y := nI vaq) (hvaq0) ?_
          refine lv_if_eq (tgt := 74) hx hb dX2_computeOne_56 (by decide) (fun c56 => ?_) (fun c56 => ?_)
          · skip
            have c56 : (nI vaq) = nI 0 := c56
            have c56 : vaq = 0 := (nI_eq (by omega) (by omega)).mp c56
            have hde : mDer1 G iq = G := Der1_n (fun z9 => by have h9 := hvaq2.mpr z9.2.1; omega)
            exact g_vret hx hb hr hlocks hG ⟨rfl, rfl, (by rw [hde]; exact hcr), (fun k h => rfl)⟩ dX2_computeOne_74
          · skip
            have c56 : ¬ ((nI vaq) = nI 0) := c56
            have c56 : ¬ (vaq = 0) := fun z9 => c56 ((nI_eq (by omega) (by omega)).mpr z9)
            refine lv_aload hx hb dX2_computeOne_59 (lv_at hl 0 rfl) ?_
            refine g_getN (C := RX6) (T := TX6) (NN := 3) (ci := 6) hx hb hts hinX6 hown hE hG (k := 12 + 2 * kq_38 + 1) (by omega) (gw_rd cy ad n _ _ (by omega)) rfl 0 (by decide) 18 rfl rfl (v := .int (A (12 + 2 * kq_38 + 1) 0)) rfl dX2_computeOne_61 ?_
            refine g_top (y := nI vbq) (hvbq0) ?_
            refine lv_if_eq (tgt := 74) hx hb dX2_computeOne_64 (by decide) (fun c64 => ?_) (fun c64 => ?_)
            · skip
              have c64 : (nI vbq) = nI 0 := c64
              have c64 : vbq = 0 := (nI_eq (by omega) (by omega)).mp c64
              have hde : mDer1 G iq = G := Der1_n (fun z9 => by have h9 := hvbq2.mpr z9.2.2; omega)
              exact g_vret hx hb hr hlocks hG ⟨rfl, rfl, (by rw [hde]; exact hcr), (fun k h => rfl)⟩ dX2_computeOne_74
            · skip
              have c64 : ¬ ((nI vbq) = nI 0) := c64
              have c64 : ¬ (vbq = 0) := fun z9 => c64 ((nI_eq (by omega) (by omega)).mpr z9)
              refine lv_aload_n hx hb dX2_computeOne_67 rfl (lv_at hl 3 rfl) ?_
              refine lv_aload_n hx hb dX2_computeOne_68 rfl (lv_at hl 1 rfl) ?_
              refine lv_aload hx hb dX2_computeOne_69 (lv_at hl 0 rfl) ?_
              refine g_callV (As := [.ref (ad (12 + 2 * kq_28 + 1)), .ref (ad (12 + 2 * kq_38 + 1))]) (rest := []) (r := (RX1, TX1, 5)) ⟨hx, hb, hml, hown, hts⟩ hE hG (cX1_combineC l D cy base ad n A J iq (12 + 2 * kq_28 + 1) (12 + 2 * kq_38 + 1) (G 43 iq) (mVo G (G 44 iq)) (mVo G (G 45 iq)) (mTo G (G 44 iq)) (mTo G (G 45 iq)) (by first | assumption | omega) ⟨((hcd iq hiq).2 hd43).2.1, by omega, by omega⟩ (by unfold gIsR; omega) (by unfold gIsR; omega) ⟨(hvaq3 (by omega)).1, mVo_r hdr _⟩ ⟨(hvbq3 (by omega)).1, mVo_r hdr _⟩ ⟨(hvaq3 (by omega)).2, mTo_r hdr _⟩ ⟨(hvbq3 (by omega)).2, mTo_r hdr _⟩) (cwV 2 hts gX2_computeOne_X1_combine rfl rfl rfl (by decide +kernel) ⟨Nat.le_of_ble_eq_true rfl, Nat.le_of_ble_eq_true rfl⟩) (by omega) (gw_dv cy ad n _ _ (by omega)) rfl rfl hl.1 rfl (Nat.le_of_ble_eq_true rfl) dX2_computeOne_71 ⟨Nat.zero_le _, Nat.zero_le _⟩ (fun v_ A71 J71 H locs hp hG => ?_)
              obtain ⟨rfl, rfl, rfl⟩ := hp
              refine W.eq (g2 := F0 mM 74 ls []) rfl ?_
              exact g_vret hx hb hr hlocks hG ⟨rfl, rfl, CRs_set hcr ⟨hd43, hvaq2.mp (by omega), hvbq2.mp (by omega)⟩ hiq, (fun k h => by rw [gu_ne _ _ _ h, gu_ne _ _ _ h, gu_ne _ _ _ h])⟩ dX2_computeOne_74
        · refine W.eq (g2 := F0 mM 41 ls [.ref (ad (33 + 2 * kq_38 + 1))]) rfl ?_
          obtain ⟨vbq, hvbq0, hvbq1, hvbq2, hvbq3⟩ := rdIs_p (o := G 45 iq) hn (hFs kq_38 hk_38.1) (h41 kq_38) hk_38 hct.2
          refine lv_astore (lv' := [(4, .ref (ad (33 + 2 * kq_38 + 1))), (3, .ref (ad (12 + 2 * kq_28 + 1))), (0, .ref (ad 10)), (1, .ref (ad (12 + 2 * iq))), (2, .ref (ad 1))]) hx hb dX2_computeOne_41 hl (by decide) rfl (fun ls hl => ?_)
          refine lv_aload_n hx hb dX2_computeOne_43 rfl (lv_at hl 1 rfl) ?_
          refine lv_ifnull hx hb dX2_computeOne_44 ?_
          refine lv_aload hx hb dX2_computeOne_47 (lv_at hl 0 rfl) ?_
          refine lv_ifnull hx hb dX2_computeOne_49 ?_
          refine lv_aload_n hx hb dX2_computeOne_52 rfl (lv_at hl 1 rfl) ?_
          refine g_getN (C := RX6) (T := TX6) (NN := 3) (ci := 6) hx hb hts hinX6 hown hE hG (k := 12 + 2 * kq_28 + 1) (by omega) (gw_rd cy ad n _ _ (by omega)) rfl 0 (by decide) 18 rfl rfl (v := .int (A (12 + 2 * kq_28 + 1) 0)) rfl dX2_computeOne_53 ?_
          refine g_top (y := nI vaq) (hvaq0) ?_
          refine lv_if_eq (tgt := 74) hx hb dX2_computeOne_56 (by decide) (fun c56 => ?_) (fun c56 => ?_)
          · skip
            have c56 : (nI vaq) = nI 0 := c56
            have c56 : vaq = 0 := (nI_eq (by omega) (by omega)).mp c56
            have hde : mDer1 G iq = G := Der1_n (fun z9 => by have h9 := hvaq2.mpr z9.2.1; omega)
            exact g_vret hx hb hr hlocks hG ⟨rfl, rfl, (by rw [hde]; exact hcr), (fun k h => rfl)⟩ dX2_computeOne_74
          · skip
            have c56 : ¬ ((nI vaq) = nI 0) := c56
            have c56 : ¬ (vaq = 0) := fun z9 => c56 ((nI_eq (by omega) (by omega)).mpr z9)
            refine lv_aload hx hb dX2_computeOne_59 (lv_at hl 0 rfl) ?_
            refine g_getN (C := RX6) (T := TX6) (NN := 3) (ci := 6) hx hb hts hinX6 hown hE hG (k := 33 + 2 * kq_38 + 1) (by omega) (gw_rp cy ad n _ _ kq_38) rfl 0 (by decide) 18 rfl rfl (v := .int (A (33 + 2 * kq_38 + 1) 0)) rfl dX2_computeOne_61 ?_
            refine g_top (y := nI vbq) (hvbq0) ?_
            refine lv_if_eq (tgt := 74) hx hb dX2_computeOne_64 (by decide) (fun c64 => ?_) (fun c64 => ?_)
            · skip
              have c64 : (nI vbq) = nI 0 := c64
              have c64 : vbq = 0 := (nI_eq (by omega) (by omega)).mp c64
              have hde : mDer1 G iq = G := Der1_n (fun z9 => by have h9 := hvbq2.mpr z9.2.2; omega)
              exact g_vret hx hb hr hlocks hG ⟨rfl, rfl, (by rw [hde]; exact hcr), (fun k h => rfl)⟩ dX2_computeOne_74
            · skip
              have c64 : ¬ ((nI vbq) = nI 0) := c64
              have c64 : ¬ (vbq = 0) := fun z9 => c64 ((nI_eq (by omega) (by omega)).mpr z9)
              refine lv_aload_n hx hb dX2_computeOne_67 rfl (lv_at hl 3 rfl) ?_
              refine lv_aload_n hx hb dX2_computeOne_68 rfl (lv_at hl 1 rfl) ?_
              refine lv_aload hx hb dX2_computeOne_69 (lv_at hl 0 rfl) ?_
              refine g_callV (As := [.ref (ad (12 + 2 * kq_28 + 1)), .ref (ad (33 + 2 * kq_38 + 1))]) (rest := []) (r := (RX1, TX1, 5)) ⟨hx, hb, hml, hown, hts⟩ hE hG (cX1_combineC l D cy base ad n A J iq (12 + 2 * kq_28 + 1) (33 + 2 * kq_38 + 1) (G 43 iq) (mVo G (G 44 iq)) (mVo G (G 45 iq)) (mTo G (G 44 iq)) (mTo G (G 45 iq)) (by first | assumption | omega) ⟨((hcd iq hiq).2 hd43).2.1, by omega, by omega⟩ (by unfold gIsR; omega) (by unfold gIsR; omega) ⟨(hvaq3 (by omega)).1, mVo_r hdr _⟩ ⟨(hvbq3 (by omega)).1, mVo_r hdr _⟩ ⟨(hvaq3 (by omega)).2, mTo_r hdr _⟩ ⟨(hvbq3 (by omega)).2, mTo_r hdr _⟩) (cwV 2 hts gX2_computeOne_X1_combine rfl rfl rfl (by decide +kernel) ⟨Nat.le_of_ble_eq_true rfl, Nat.le_of_ble_eq_true rfl⟩) (by omega) (gw_dv cy ad n _ _ (by omega)) rfl rfl hl.1 rfl (Nat.le_of_ble_eq_true rfl) dX2_computeOne_71 ⟨Nat.zero_le _, Nat.zero_le _⟩ (fun v_ A71 J71 H locs hp hG => ?_)
              obtain ⟨rfl, rfl, rfl⟩ := hp
              refine W.eq (g2 := F0 mM 74 ls []) rfl ?_
              exact g_vret hx hb hr hlocks hG ⟨rfl, rfl, CRs_set hcr ⟨hd43, hvaq2.mp (by omega), hvbq2.mp (by omega)⟩ hiq, (fun k h => by rw [gu_ne _ _ _ h, gu_ne _ _ _ h, gu_ne _ _ _ h])⟩ dX2_computeOne_74
        · refine W.eq (g2 := F0 mM 41 ls [.null]) rfl ?_
          have hde : mDer1 G iq = G := Der1_n (fun z9 => rdIs_no hn hk_38 z9.2.2)
          refine lv_astoreN (lv' := [(4, .null), (3, .ref (ad (12 + 2 * kq_28 + 1))), (0, .ref (ad 10)), (1, .ref (ad (12 + 2 * iq))), (2, .ref (ad 1))]) hx hb dX2_computeOne_41 hl (by decide) rfl (fun ls hl => ?_)
          refine lv_aload_n hx hb dX2_computeOne_43 rfl (lv_at hl 1 rfl) ?_
          refine lv_ifnull hx hb dX2_computeOne_44 ?_
          refine lv_aloadN hx hb dX2_computeOne_47 (lv_at hl 0 rfl) ?_
          refine lv_ifnullN (tgt := 74) hx hb dX2_computeOne_49 (by decide) ?_
          exact g_vret hx hb hr hlocks hG ⟨rfl, rfl, (by rw [hde]; exact hcr), (fun k h => rfl)⟩ dX2_computeOne_74
      · refine W.eq (g2 := F0 mM 31 ls [.ref (ad (33 + 2 * kq_28 + 1))]) rfl ?_
        obtain ⟨vaq, hvaq0, hvaq1, hvaq2, hvaq3⟩ := rdIs_p (o := G 44 iq) hn (hFs kq_28 hk_28.1) (h41 kq_28) hk_28 hct.2
        refine lv_astore_n (lv' := [(3, .ref (ad (33 + 2 * kq_28 + 1))), (0, .ref (ad 10)), (1, .ref (ad (12 + 2 * iq))), (2, .ref (ad 1))]) hx hb dX2_computeOne_31 rfl hl (by decide) rfl (fun ls hl => ?_)
        refine lv_aload_n hx hb dX2_computeOne_32 rfl (lv_at hl 1 rfl) ?_
        refine lv_aload_n hx hb dX2_computeOne_33 rfl (lv_at hl 2 rfl) ?_
        refine g_getN (C := RX1) (T := TX1) (NN := 5) (ci := 1) hx hb hts hinX1 hown hE hG (k := 12 + 2 * iq) (by omega) (gw_dv cy ad n _ _ (by omega)) rfl 3 (by decide) 27 rfl rfl (v := .int (A (12 + 2 * iq) 3)) rfl dX2_computeOne_34 ?_
        refine g_top (y := zI (G 45 iq)) (((hcd iq hiq).2 hd43).2.2.2) ?_
        refine lv_aload_n hx hb dX2_computeOne_37 rfl (lv_at hl 3 rfl) ?_
        refine g_callV (As := [.int (zI (G 45 iq)), .ref (ad 1)]) (rest := []) (r := (RX2, TX2, 1)) ⟨hx, hb, hml, hown, hts⟩ hE hG (cX2_operandC l D cy base ad n A J n (G 45 iq) (by first | assumption | omega) (by first | assumption | omega) hdq.2.2) (cwV 2 hts gX2_computeOne_X2_operand rfl rfl rfl (by decide +kernel) ⟨Nat.le_of_ble_eq_true rfl, Nat.le_of_ble_eq_true rfl⟩) (by omega) rfl rfl rfl hl.1 rfl (Nat.le_of_ble_eq_true rfl) dX2_computeOne_38 ⟨Nat.zero_le _, Nat.zero_le _⟩ (fun v_ A38 J38 H locs hp hG => ?_)
        rcases hp with ⟨kq_38, rfl, rfl, rfl, hk_38⟩ | ⟨kq_38, rfl, rfl, rfl, hk_38⟩ | ⟨rfl, rfl, rfl, hk_38⟩
        · refine W.eq (g2 := F0 mM 41 ls [.ref (ad (12 + 2 * kq_38 + 1))]) rfl ?_
          obtain ⟨vbq, hvbq0, hvbq1, hvbq2, hvbq3⟩ := rdIs_d (o := G 45 iq) hcr (hdr kq_38).1 hk_38
          refine lv_astore (lv' := [(4, .ref (ad (12 + 2 * kq_38 + 1))), (3, .ref (ad (33 + 2 * kq_28 + 1))), (0, .ref (ad 10)), (1, .ref (ad (12 + 2 * iq))), (2, .ref (ad 1))]) hx hb dX2_computeOne_41 hl (by decide) rfl (fun ls hl => ?_)
          refine lv_aload_n hx hb dX2_computeOne_43 rfl (lv_at hl 1 rfl) ?_
          refine lv_ifnull hx hb dX2_computeOne_44 ?_
          refine lv_aload hx hb dX2_computeOne_47 (lv_at hl 0 rfl) ?_
          refine lv_ifnull hx hb dX2_computeOne_49 ?_
          refine lv_aload_n hx hb dX2_computeOne_52 rfl (lv_at hl 1 rfl) ?_
          refine g_getN (C := RX6) (T := TX6) (NN := 3) (ci := 6) hx hb hts hinX6 hown hE hG (k := 33 + 2 * kq_28 + 1) (by omega) (gw_rp cy ad n _ _ kq_28) rfl 0 (by decide) 18 rfl rfl (v := .int (A (33 + 2 * kq_28 + 1) 0)) rfl dX2_computeOne_53 ?_
          refine g_top (y := nI vaq) (hvaq0) ?_
          refine lv_if_eq (tgt := 74) hx hb dX2_computeOne_56 (by decide) (fun c56 => ?_) (fun c56 => ?_)
          · skip
            have c56 : (nI vaq) = nI 0 := c56
            have c56 : vaq = 0 := (nI_eq (by omega) (by omega)).mp c56
            have hde : mDer1 G iq = G := Der1_n (fun z9 => by have h9 := hvaq2.mpr z9.2.1; omega)
            exact g_vret hx hb hr hlocks hG ⟨rfl, rfl, (by rw [hde]; exact hcr), (fun k h => rfl)⟩ dX2_computeOne_74
          · skip
            have c56 : ¬ ((nI vaq) = nI 0) := c56
            have c56 : ¬ (vaq = 0) := fun z9 => c56 ((nI_eq (by omega) (by omega)).mpr z9)
            refine lv_aload hx hb dX2_computeOne_59 (lv_at hl 0 rfl) ?_
            refine g_getN (C := RX6) (T := TX6) (NN := 3) (ci := 6) hx hb hts hinX6 hown hE hG (k := 12 + 2 * kq_38 + 1) (by omega) (gw_rd cy ad n _ _ (by omega)) rfl 0 (by decide) 18 rfl rfl (v := .int (A (12 + 2 * kq_38 + 1) 0)) rfl dX2_computeOne_61 ?_
            refine g_top (y := nI vbq) (hvbq0) ?_
            refine lv_if_eq (tgt := 74) hx hb dX2_computeOne_64 (by decide) (fun c64 => ?_) (fun c64 => ?_)
            · skip
              have c64 : (nI vbq) = nI 0 := c64
              have c64 : vbq = 0 := (nI_eq (by omega) (by omega)).mp c64
              have hde : mDer1 G iq = G := Der1_n (fun z9 => by have h9 := hvbq2.mpr z9.2.2; omega)
              exact g_vret hx hb hr hlocks hG ⟨rfl, rfl, (by rw [hde]; exact hcr), (fun k h => rfl)⟩ dX2_computeOne_74
            · skip
              have c64 : ¬ ((nI vbq) = nI 0) := c64
              have c64 : ¬ (vbq = 0) := fun z9 => c64 ((nI_eq (by omega) (by omega)).mpr z9)
              refine lv_aload_n hx hb dX2_computeOne_67 rfl (lv_at hl 3 rfl) ?_
              refine lv_aload_n hx hb dX2_computeOne_68 rfl (lv_at hl 1 rfl) ?_
              refine lv_aload hx hb dX2_computeOne_69 (lv_at hl 0 rfl) ?_
              refine g_callV (As := [.ref (ad (33 + 2 * kq_28 + 1)), .ref (ad (12 + 2 * kq_38 + 1))]) (rest := []) (r := (RX1, TX1, 5)) ⟨hx, hb, hml, hown, hts⟩ hE hG (cX1_combineC l D cy base ad n A J iq (33 + 2 * kq_28 + 1) (12 + 2 * kq_38 + 1) (G 43 iq) (mVo G (G 44 iq)) (mVo G (G 45 iq)) (mTo G (G 44 iq)) (mTo G (G 45 iq)) (by first | assumption | omega) ⟨((hcd iq hiq).2 hd43).2.1, by omega, by omega⟩ (by unfold gIsR; omega) (by unfold gIsR; omega) ⟨(hvaq3 (by omega)).1, mVo_r hdr _⟩ ⟨(hvbq3 (by omega)).1, mVo_r hdr _⟩ ⟨(hvaq3 (by omega)).2, mTo_r hdr _⟩ ⟨(hvbq3 (by omega)).2, mTo_r hdr _⟩) (cwV 2 hts gX2_computeOne_X1_combine rfl rfl rfl (by decide +kernel) ⟨Nat.le_of_ble_eq_true rfl, Nat.le_of_ble_eq_true rfl⟩) (by omega) (gw_dv cy ad n _ _ (by omega)) rfl rfl hl.1 rfl (Nat.le_of_ble_eq_true rfl) dX2_computeOne_71 ⟨Nat.zero_le _, Nat.zero_le _⟩ (fun v_ A71 J71 H locs hp hG => ?_)
              obtain ⟨rfl, rfl, rfl⟩ := hp
              refine W.eq (g2 := F0 mM 74 ls []) rfl ?_
              exact g_vret hx hb hr hlocks hG ⟨rfl, rfl, CRs_set hcr ⟨hd43, hvaq2.mp (by omega), hvbq2.mp (by omega)⟩ hiq, (fun k h => by rw [gu_ne _ _ _ h, gu_ne _ _ _ h, gu_ne _ _ _ h])⟩ dX2_computeOne_74
        · refine W.eq (g2 := F0 mM 41 ls [.ref (ad (33 + 2 * kq_38 + 1))]) rfl ?_
          obtain ⟨vbq, hvbq0, hvbq1, hvbq2, hvbq3⟩ := rdIs_p (o := G 45 iq) hn (hFs kq_38 hk_38.1) (h41 kq_38) hk_38 hct.2
          refine lv_astore (lv' := [(4, .ref (ad (33 + 2 * kq_38 + 1))), (3, .ref (ad (33 + 2 * kq_28 + 1))), (0, .ref (ad 10)), (1, .ref (ad (12 + 2 * iq))), (2, .ref (ad 1))]) hx hb dX2_computeOne_41 hl (by decide) rfl (fun ls hl => ?_)
          refine lv_aload_n hx hb dX2_computeOne_43 rfl (lv_at hl 1 rfl) ?_
          refine lv_ifnull hx hb dX2_computeOne_44 ?_
          refine lv_aload hx hb dX2_computeOne_47 (lv_at hl 0 rfl) ?_
          refine lv_ifnull hx hb dX2_computeOne_49 ?_
          refine lv_aload_n hx hb dX2_computeOne_52 rfl (lv_at hl 1 rfl) ?_
          refine g_getN (C := RX6) (T := TX6) (NN := 3) (ci := 6) hx hb hts hinX6 hown hE hG (k := 33 + 2 * kq_28 + 1) (by omega) (gw_rp cy ad n _ _ kq_28) rfl 0 (by decide) 18 rfl rfl (v := .int (A (33 + 2 * kq_28 + 1) 0)) rfl dX2_computeOne_53 ?_
          refine g_top (y := nI vaq) (hvaq0) ?_
          refine lv_if_eq (tgt := 74) hx hb dX2_computeOne_56 (by decide) (fun c56 => ?_) (fun c56 => ?_)
          · skip
            have c56 : (nI vaq) = nI 0 := c56
            have c56 : vaq = 0 := (nI_eq (by omega) (by omega)).mp c56
            have hde : mDer1 G iq = G := Der1_n (fun z9 => by have h9 := hvaq2.mpr z9.2.1; omega)
            exact g_vret hx hb hr hlocks hG ⟨rfl, rfl, (by rw [hde]; exact hcr), (fun k h => rfl)⟩ dX2_computeOne_74
          · skip
            have c56 : ¬ ((nI vaq) = nI 0) := c56
            have c56 : ¬ (vaq = 0) := fun z9 => c56 ((nI_eq (by omega) (by omega)).mpr z9)
            refine lv_aload hx hb dX2_computeOne_59 (lv_at hl 0 rfl) ?_
            refine g_getN (C := RX6) (T := TX6) (NN := 3) (ci := 6) hx hb hts hinX6 hown hE hG (k := 33 + 2 * kq_38 + 1) (by omega) (gw_rp cy ad n _ _ kq_38) rfl 0 (by decide) 18 rfl rfl (v := .int (A (33 + 2 * kq_38 + 1) 0)) rfl dX2_computeOne_61 ?_
            refine g_top (y := nI vbq) (hvbq0) ?_
            refine lv_if_eq (tgt := 74) hx hb dX2_computeOne_64 (by decide) (fun c64 => ?_) (fun c64 => ?_)
            · skip
              have c64 : (nI vbq) = nI 0 := c64
              have c64 : vbq = 0 := (nI_eq (by omega) (by omega)).mp c64
              have hde : mDer1 G iq = G := Der1_n (fun z9 => by have h9 := hvbq2.mpr z9.2.2; omega)
              exact g_vret hx hb hr hlocks hG ⟨rfl, rfl, (by rw [hde]; exact hcr), (fun k h => rfl)⟩ dX2_computeOne_74
            · skip
              have c64 : ¬ ((nI vbq) = nI 0) := c64
              have c64 : ¬ (vbq = 0) := fun z9 => c64 ((nI_eq (by omega) (by omega)).mpr z9)
              refine lv_aload_n hx hb dX2_computeOne_67 rfl (lv_at hl 3 rfl) ?_
              refine lv_aload_n hx hb dX2_computeOne_68 rfl (lv_at hl 1 rfl) ?_
              refine lv_aload hx hb dX2_computeOne_69 (lv_at hl 0 rfl) ?_
              refine g_callV (As := [.ref (ad (33 + 2 * kq_28 + 1)), .ref (ad (33 + 2 * kq_38 + 1))]) (rest := []) (r := (RX1, TX1, 5)) ⟨hx, hb, hml, hown, hts⟩ hE hG (cX1_combineC l D cy base ad n A J iq (33 + 2 * kq_28 + 1) (33 + 2 * kq_38 + 1) (G 43 iq) (mVo G (G 44 iq)) (mVo G (G 45 iq)) (mTo G (G 44 iq)) (mTo G (G 45 iq)) (by first | assumption | omega) ⟨((hcd iq hiq).2 hd43).2.1, by omega, by omega⟩ (by unfold gIsR; omega) (by unfold gIsR; omega) ⟨(hvaq3 (by omega)).1, mVo_r hdr _⟩ ⟨(hvbq3 (by omega)).1, mVo_r hdr _⟩ ⟨(hvaq3 (by omega)).2, mTo_r hdr _⟩ ⟨(hvbq3 (by omega)).2, mTo_r hdr _⟩) (cwV 2 hts gX2_computeOne_X1_combine rfl rfl rfl (by decide +kernel) ⟨Nat.le_of_ble_eq_true rfl, Nat.le_of_ble_eq_true rfl⟩) (by omega) (gw_dv cy ad n _ _ (by omega)) rfl rfl hl.1 rfl (Nat.le_of_ble_eq_true rfl) dX2_computeOne_71 ⟨Nat.zero_le _, Nat.zero_le _⟩ (fun v_ A71 J71 H locs hp hG => ?_)
              obtain ⟨rfl, rfl, rfl⟩ := hp
              refine W.eq (g2 := F0 mM 74 ls []) rfl ?_
              exact g_vret hx hb hr hlocks hG ⟨rfl, rfl, CRs_set hcr ⟨hd43, hvaq2.mp (by omega), hvbq2.mp (by omega)⟩ hiq, (fun k h => by rw [gu_ne _ _ _ h, gu_ne _ _ _ h, gu_ne _ _ _ h])⟩ dX2_computeOne_74
        · refine W.eq (g2 := F0 mM 41 ls [.null]) rfl ?_
          have hde : mDer1 G iq = G := Der1_n (fun z9 => rdIs_no hn hk_38 z9.2.2)
          refine lv_astoreN (lv' := [(4, .null), (3, .ref (ad (33 + 2 * kq_28 + 1))), (0, .ref (ad 10)), (1, .ref (ad (12 + 2 * iq))), (2, .ref (ad 1))]) hx hb dX2_computeOne_41 hl (by decide) rfl (fun ls hl => ?_)
          refine lv_aload_n hx hb dX2_computeOne_43 rfl (lv_at hl 1 rfl) ?_
          refine lv_ifnull hx hb dX2_computeOne_44 ?_
          refine lv_aloadN hx hb dX2_computeOne_47 (lv_at hl 0 rfl) ?_
          refine lv_ifnullN (tgt := 74) hx hb dX2_computeOne_49 (by decide) ?_
          exact g_vret hx hb hr hlocks hG ⟨rfl, rfl, (by rw [hde]; exact hcr), (fun k h => rfl)⟩ dX2_computeOne_74
      · refine W.eq (g2 := F0 mM 31 ls [.null]) rfl ?_
        have hde : mDer1 G iq = G := Der1_n (fun z9 => rdIs_no hn hk_28 z9.2.1)
        refine lv_astore_nN (lv' := [(3, .null), (0, .ref (ad 10)), (1, .ref (ad (12 + 2 * iq))), (2, .ref (ad 1))]) hx hb dX2_computeOne_31 rfl hl (by decide) rfl (fun ls hl => ?_)
        refine lv_aload_n hx hb dX2_computeOne_32 rfl (lv_at hl 1 rfl) ?_
        refine lv_aload_n hx hb dX2_computeOne_33 rfl (lv_at hl 2 rfl) ?_
        refine g_getN (C := RX1) (T := TX1) (NN := 5) (ci := 1) hx hb hts hinX1 hown hE hG (k := 12 + 2 * iq) (by omega) (gw_dv cy ad n _ _ (by omega)) rfl 3 (by decide) 27 rfl rfl (v := .int (A (12 + 2 * iq) 3)) rfl dX2_computeOne_34 ?_
        refine g_top (y := zI (G 45 iq)) (((hcd iq hiq).2 hd43).2.2.2) ?_
        refine lv_aload_n hx hb dX2_computeOne_37 rfl (lv_at hl 3 rfl) ?_
        refine g_callV (As := [.int (zI (G 45 iq)), .ref (ad 1)]) (rest := []) (r := (RX2, TX2, 1)) ⟨hx, hb, hml, hown, hts⟩ hE hG (cX2_operandC l D cy base ad n A J n (G 45 iq) (by first | assumption | omega) (by first | assumption | omega) hdq.2.2) (cwV 2 hts gX2_computeOne_X2_operand rfl rfl rfl (by decide +kernel) ⟨Nat.le_of_ble_eq_true rfl, Nat.le_of_ble_eq_true rfl⟩) (by omega) rfl rfl rfl hl.1 rfl (Nat.le_of_ble_eq_true rfl) dX2_computeOne_38 ⟨Nat.zero_le _, Nat.zero_le _⟩ (fun v_ A38 J38 H locs hp hG => ?_)
        rcases hp with ⟨kq_38, rfl, rfl, rfl, hk_38⟩ | ⟨kq_38, rfl, rfl, rfl, hk_38⟩ | ⟨rfl, rfl, rfl, hk_38⟩
        · refine W.eq (g2 := F0 mM 41 ls [.ref (ad (12 + 2 * kq_38 + 1))]) rfl ?_
          obtain ⟨vbq, hvbq0, hvbq1, hvbq2, hvbq3⟩ := rdIs_d (o := G 45 iq) hcr (hdr kq_38).1 hk_38
          refine lv_astore (lv' := [(4, .ref (ad (12 + 2 * kq_38 + 1))), (3, .null), (0, .ref (ad 10)), (1, .ref (ad (12 + 2 * iq))), (2, .ref (ad 1))]) hx hb dX2_computeOne_41 hl (by decide) rfl (fun ls hl => ?_)
          refine lv_aload_nN hx hb dX2_computeOne_43 rfl (lv_at hl 1 rfl) ?_
          refine lv_ifnullN (tgt := 74) hx hb dX2_computeOne_44 (by decide) ?_
          exact g_vret hx hb hr hlocks hG ⟨rfl, rfl, (by rw [hde]; exact hcr), (fun k h => rfl)⟩ dX2_computeOne_74
        · refine W.eq (g2 := F0 mM 41 ls [.ref (ad (33 + 2 * kq_38 + 1))]) rfl ?_
          obtain ⟨vbq, hvbq0, hvbq1, hvbq2, hvbq3⟩ := rdIs_p (o := G 45 iq) hn (hFs kq_38 hk_38.1) (h41 kq_38) hk_38 hct.2
          refine lv_astore (lv' := [(4, .ref (ad (33 + 2 * kq_38 + 1))), (3, .null), (0, .ref (ad 10)), (1, .ref (ad (12 + 2 * iq))), (2, .ref (ad 1))]) hx hb dX2_computeOne_41 hl (by decide) rfl (fun ls hl => ?_)
          refine lv_aload_nN hx hb dX2_computeOne_43 rfl (lv_at hl 1 rfl) ?_
          refine lv_ifnullN (tgt := 74) hx hb dX2_computeOne_44 (by decide) ?_
          exact g_vret hx hb hr hlocks hG ⟨rfl, rfl, (by rw [hde]; exact hcr), (fun k h => rfl)⟩ dX2_computeOne_74
        · refine W.eq (g2 := F0 mM 41 ls [.null]) rfl ?_
          have hde : mDer1 G iq = G := Der1_n (fun z9 => rdIs_no hn hk_38 z9.2.2)
          refine lv_astoreN (lv' := [(4, .null), (3, .null), (0, .ref (ad 10)), (1, .ref (ad (12 + 2 * iq))), (2, .ref (ad 1))]) hx hb dX2_computeOne_41 hl (by decide) rfl (fun ls hl => ?_)
          refine lv_aload_nN hx hb dX2_computeOne_43 rfl (lv_at hl 1 rfl) ?_
          refine lv_ifnullN (tgt := 74) hx hb dX2_computeOne_44 (by decide) ?_
          exact g_vret hx hb hr hlocks hG ⟨rfl, rfl, (by rw [hde]; exact hcr), (fun k h => rfl)⟩ dX2_computeOne_74
    · skip
      have c18 : ¬ ((zI (G 46 iq)) = nI 0) := c18
      have c18 : ¬ ((G 46 iq) = ((0 : Nat) : Int)) := fun z9 => c18 ((cmp_eq (zI_toInt (by omega) (by omega)) (nI_toInt (by omega))).mpr z9)
      have hde : mDer1 G iq = G := Der1_k hI hiq (by omega)
      exact g_vret hx hb hr hlocks hG ⟨rfl, rfl, (by rw [hde]; exact hcr), (fun k h => rfl)⟩ dX2_computeOne_21
