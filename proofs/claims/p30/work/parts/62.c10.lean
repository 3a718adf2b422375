abbrev PX2_at (ad : Nat → Nat) (A : Nat → Nat → Int32) (J : Nat → Nat → Int64) (iq : Nat) : Option Value → (Nat → Nat → Int32) → (Nat → Nat → Int64) → Prop := fun v_ A1 J1 => (v_ = some (.ref (ad (12 + 2 * iq))) ∧ A = A1 ∧ J = J1)
set_option maxHeartbeats 4000000 in
set_option maxRecDepth 100000 in
theorem cX2_atC (l : Launch) (D : va_G) (cy : Nat → ClassId) (base : Nat) (ad : Nat → Nat) (n : Nat) (A : Nat → Nat → Int32) (J : Nat → Nat → Int64) (iq : Nat) (hiq : iq < 8) : gMet l yX2_at wsX2_at ({ frames := 0, cells := 0, slots := 0, locals := 0 } : Room) D cy base ad n A J [.ref (ad 10), .int (nI iq)] (PX2_at ad A J iq) := by
  refine g_ofW (cc := cX2_at) (maxL := 2) (ret := (some (.object "Commutator$Derived"))) (by decide) rfl (Nat.le_of_ble_eq_true rfl) ?_
  intro pM eM sM mM aM bM methM cM H locs ls hx hb hr hts hown hlocks hml hE hG hl
  have hl : lv_has ls 2 [(0, .ref (ad 10)), (1, .int (nI iq))] := hl
  have hinX2 : ∀ w ∈ u_ws RX2 TX2 1, w ∈ wsX2_at := by decide +kernel
  refine lv_iload_n hx hb dX2_at_0 rfl (lv_at hl 1 rfl) ?_
  refine lv_if_lt (tgt := 22) hx hb dX2_at_1 (by decide) (fun c1 => ?_) (fun c1 => ?_)
  · skip
    have c1 : (nI iq) < nI 0 := c1
    have c1 : iq < 0 := (nI_ltI (by omega) (by omega)).mp c1
    exfalso; omega
  · skip
    have c1 : ¬ ((nI iq) < nI 0) := c1
    have c1 : ¬ (iq < 0) := fun z9 => c1 ((nI_ltI (by omega) (by omega)).mpr z9)
    refine lv_iload_n hx hb dX2_at_4 rfl (lv_at hl 1 rfl) ?_
    refine lv_aload_n hx hb dX2_at_5 rfl (lv_at hl 0 rfl) ?_
    refine g_get (C := RX2) (T := TX2) (NN := 1) (ci := 2) hx hb hts hinX2 hown hE hG (k := 10) (by omega) rfl rfl 0 (by decide) (hts (.fieldLink RX2 11 "Commutator$DerivedTable" "rows" "[LCommutator$Derived;") (List.mem_of_getElem? (i := 1) rfl)) rfl (v := .ref (ad 11)) rfl dX2_at_6 ?_
    refine g_alen hx hb hE hG (k := 11) (t0 := 3) (v := nI 8) (by omega) rfl rfl rfl dX2_at_9 ?_
    refine lv_icmp_ge (tgt := 22) hx hb dX2_at_10 (by decide) (fun c10 => ?_) (fun c10 => ?_)
    · skip
      have c10 : 8 ≤ iq := (nI_leI (by omega) (by omega)).mp c10
      exfalso; omega
    · skip
      have c10 : ¬ (8 ≤ iq) := fun z9 => c10 ((nI_leI (by omega) (by omega)).mpr z9)
      refine lv_aload_n hx hb dX2_at_13 rfl (lv_at hl 0 rfl) ?_
      refine g_get (C := RX2) (T := TX2) (NN := 1) (ci := 2) hx hb hts hinX2 hown hE hG (k := 10) (by omega) rfl rfl 0 (by decide) (hts (.fieldLink RX2 11 "Commutator$DerivedTable" "rows" "[LCommutator$Derived;") (List.mem_of_getElem? (i := 1) rfl)) rfl (v := .ref (ad 11)) rfl dX2_at_14 ?_
      refine lv_iload_n hx hb dX2_at_17 rfl (lv_at hl 1 rfl) ?_
      refine g_aald hx hb hE hG (k := 11) (t0 := 3) (by omega) rfl rfl iq (rfl) (by omega) (by omega) dX2_at_18 (v := .ref (ad (12 + 2 * iq))) (by show va_rf (if iq < 8 then some (ad (12 + 2 * iq)) else none) = _; rw [if_pos (by omega)]; rfl) ?_
      refine lv_goto (tgt := 23) hx hb dX2_at_19 (by decide) ?_
      exact g_aret hx hb hr hlocks (Or.inr ⟨_, rfl⟩) hG ⟨rfl, rfl, rfl⟩ dX2_at_23

abbrev PX2_operand (ad : Nat → Nat) (A : Nat → Nat → Int32) (J : Nat → Nat → Int64) (nq : Nat) (oq : Int) : Option Value → (Nat → Nat → Int32) → (Nat → Nat → Int64) → Prop := fun v_ A1 J1 => (∃ (kq : Nat), v_ = some (.ref (ad (12 + 2 * kq + 1))) ∧ A = A1 ∧ J = J1 ∧ (kq < 8 ∧ oq = 100 + (kq : Int))) ∨ (∃ (kq : Nat), v_ = some (.ref (ad (33 + 2 * kq + 1))) ∧ A = A1 ∧ J = J1 ∧ (kq < nq ∧ oq = (kq : Int))) ∨ (v_ = some (.null) ∧ A = A1 ∧ J = J1 ∧ (oq < 100 ∧ (nq : Int) ≤ oq))
set_option maxHeartbeats 4000000 in
set_option maxRecDepth 100000 in
theorem cX2_operandC (l : Launch) (D : va_G) (cy : Nat → ClassId) (base : Nat) (ad : Nat → Nat) (n : Nat) (A : Nat → Nat → Int32) (J : Nat → Nat → Int64) (nq : Nat) (oq : Int) (hct : A 1 1 = nI n ∧ n ≤ 12) (hnq : nq = n) (hop : isOp oq) : gMet l yX2_operand wsX2_operand ({ frames := 1, cells := 0, slots := 0, locals := 21 } : Room) D cy base ad n A J [.ref (ad 10), .int (zI oq), .ref (ad 1)] (PX2_operand ad A J nq oq) := by
  refine g_ofW (cc := cX2_operand) (maxL := 4) (ret := (some (.object "Commutator$Reading"))) (by decide) rfl (Nat.le_of_ble_eq_true rfl) ?_
  intro pM eM sM mM aM bM methM cM H locs ls hx hb hr hts hown hlocks hml hE hG hl
  have hl : lv_has ls 4 [(0, .ref (ad 10)), (1, .int (zI oq)), (2, .ref (ad 1))] := hl
  have hinX1 : ∀ w ∈ u_ws RX1 TX1 5, w ∈ wsX2_operand := by decide +kernel
  have hinX2 : ∀ w ∈ u_ws RX2 TX2 1, w ∈ wsX2_operand := by decide +kernel
  have hinX4 : ∀ w ∈ u_ws RX4 TX4 10, w ∈ wsX2_operand := by decide +kernel
  have hinX5 : ∀ w ∈ u_ws RX5 TX5 3, w ∈ wsX2_operand := by decide +kernel
  refine lv_iload_n hx hb dX2_operand_0 rfl (lv_at hl 1 rfl) ?_
  refine lv_bipush (v := nI 100) hx hb dX2_operand_1 (by decide) ?_
  refine lv_icmp_lt (tgt := 28) hx hb dX2_operand_3 (by decide) (fun c3 => ?_) (fun c3 => ?_)
  · skip
    have c3 : oq < ((100 : Nat) : Int) := (cmp_lt (zI_toInt (by omega) (by omega)) (nI_toInt (by omega))).mp c3
    refine lv_aload_n hx hb dX2_operand_28 rfl (lv_at hl 2 rfl) ?_
    refine lv_iload_n hx hb dX2_operand_29 rfl (lv_at hl 1 rfl) ?_
    refine g_callV (As := [.int (zI oq)]) (rest := []) (r := (RX5, TX5, 3)) ⟨hx, hb, hml, hown, hts⟩ hE hG (cX5_atC l D cy base ad n A J n oq (by first | assumption | omega) (by first | assumption | omega) (by first | assumption | omega)) (cwV 1 hts gX2_operand_X5_at rfl rfl rfl (by decide +kernel) ⟨Nat.le_of_ble_eq_true rfl, Nat.le_of_ble_eq_true rfl⟩) (by omega) rfl rfl rfl hl.1 rfl (Nat.le_of_ble_eq_true rfl) dX2_operand_30 ⟨Nat.zero_le _, Nat.zero_le _⟩ (fun v_ A30 J30 H locs hp hG => ?_)
    rcases hp with ⟨iq_30, rfl, rfl, rfl, hiq_30⟩ | ⟨rfl, rfl, rfl, hnn_30⟩
    · refine W.eq (g2 := F0 mM 33 ls [.ref (ad (33 + 2 * iq_30))]) rfl ?_
      refine lv_astore_n (lv' := [(3, .ref (ad (33 + 2 * iq_30))), (0, .ref (ad 10)), (1, .int (zI oq)), (2, .ref (ad 1))]) hx hb dX2_operand_33 rfl hl (by decide) rfl (fun ls hl => ?_)
      refine lv_aload_n hx hb dX2_operand_34 rfl (lv_at hl 0 rfl) ?_
      refine lv_ifnonnull (tgt := 42) hx hb dX2_operand_35 (by decide) ?_
      refine lv_aload_n hx hb dX2_operand_42 rfl (lv_at hl 0 rfl) ?_
      refine g_getN (C := RX4) (T := TX4) (NN := 10) (ci := 4) hx hb hts hinX4 hown hE hG (k := 33 + 2 * iq_30) (by omega) (gw_pt cy ad n _ _ iq_30) rfl 7 (by decide) 34 rfl rfl (v := .ref (ad (33 + 2 * iq_30 + 1))) rfl dX2_operand_43 ?_
      exact g_aret hx hb hr hlocks (Or.inr ⟨_, rfl⟩) hG (Or.inr (Or.inl ⟨_, rfl, rfl, rfl, by omega⟩)) dX2_operand_46
    · refine W.eq (g2 := F0 mM 33 ls [.null]) rfl ?_
      refine lv_astore_nN (lv' := [(3, .null), (0, .ref (ad 10)), (1, .int (zI oq)), (2, .ref (ad 1))]) hx hb dX2_operand_33 rfl hl (by decide) rfl (fun ls hl => ?_)
      refine lv_aload_nN hx hb dX2_operand_34 rfl (lv_at hl 0 rfl) ?_
      refine lv_ifnonnullN hx hb dX2_operand_35 ?_
      refine lv_null hx hb dX2_operand_38 ?_
      refine lv_goto (tgt := 46) hx hb dX2_operand_39 (by decide) ?_
      exact g_aret hx hb hr hlocks (Or.inl rfl) hG (Or.inr (Or.inr ⟨rfl, rfl, rfl, by omega⟩)) dX2_operand_46
  · skip
    have c3 : ¬ (oq < ((100 : Nat) : Int)) := fun z9 => c3 ((cmp_lt (zI_toInt (by omega) (by omega)) (nI_toInt (by omega))).mpr z9)
    refine lv_aload_n hx hb dX2_operand_6 rfl (lv_at hl 0 rfl) ?_
    refine lv_iload_n hx hb dX2_operand_7 rfl (lv_at hl 1 rfl) ?_
    refine lv_bipush (v := nI 100) hx hb dX2_operand_8 (by decide) ?_
    refine lv_isub hx hb dX2_operand_10 ?_
    refine g_top (y := zI (oq - 100)) (zI_sub_in _ _) ?_
    refine g_top (y := nI (oq - 100).toNat) (zI_nat (by omega)) ?_
    refine g_callV (As := [.int (nI ((oq - 100).toNat))]) (rest := []) (r := (RX2, TX2, 1)) ⟨hx, hb, hml, hown, hts⟩ hE hG (cX2_atC l D cy base ad n A J ((oq - 100).toNat) (by first | assumption | omega)) (cwV 1 hts gX2_operand_X2_at rfl rfl rfl (by decide +kernel) ⟨Nat.le_of_ble_eq_true rfl, Nat.le_of_ble_eq_true rfl⟩) (by omega) rfl rfl rfl hl.1 rfl (Nat.le_of_ble_eq_true rfl) dX2_operand_11 ⟨Nat.zero_le _, Nat.zero_le _⟩ (fun v_ A11 J11 H locs hp hG => ?_)
    obtain ⟨rfl, rfl, rfl⟩ := hp
    refine W.eq (g2 := F0 mM 14 ls [.ref (ad (12 + 2 * ((oq - 100).toNat)))]) rfl ?_
    refine lv_astore_n (lv' := [(3, .ref (ad (12 + 2 * ((oq - 100).toNat)))), (0, .ref (ad 10)), (1, .int (zI oq)), (2, .ref (ad 1))]) hx hb dX2_operand_14 rfl hl (by decide) rfl (fun ls hl => ?_)
    refine lv_aload_n hx hb dX2_operand_15 rfl (lv_at hl 0 rfl) ?_
    refine lv_ifnonnull (tgt := 23) hx hb dX2_operand_16 (by decide) ?_
    refine lv_aload_n hx hb dX2_operand_23 rfl (lv_at hl 0 rfl) ?_
    refine g_getN (C := RX1) (T := TX1) (NN := 5) (ci := 1) hx hb hts hinX1 hown hE hG (k := 12 + 2 * ((oq - 100).toNat)) (by omega) (gw_dv cy ad n _ _ (by omega)) rfl 4 (by decide) 28 rfl rfl (v := .ref (ad (12 + 2 * ((oq - 100).toNat) + 1))) rfl dX2_operand_24 ?_
    exact g_aret hx hb hr hlocks (Or.inr ⟨_, rfl⟩) hG (Or.inl ⟨_, rfl, rfl, rfl, by omega⟩) dX2_operand_27

abbrev PX1_operate (ad : Nat → Nat) (A : Nat → Nat → Int32) (J : Nat → Nat → Int64) (iq : Nat) (opq aq bq : Int) : Option Value → (Nat → Nat → Int32) → (Nat → Nat → Int64) → Prop := fun v_ A1 J1 => (v_ = some (.long (zL (mOp opq aq bq))) ∧ A = A1 ∧ J = J1)
set_option maxHeartbeats 4000000 in
set_option maxRecDepth 100000 in
theorem cX1_operateC (l : Launch) (D : va_G) (cy : Nat → ClassId) (base : Nat) (ad : Nat → Nat) (n : Nat) (A : Nat → Nat → Int32) (J : Nat → Nat → Int64) (iq : Nat) (opq aq bq : Int) (hi : iq < 8) (hop : A (12 + 2 * iq) 1 = zI opq ∧ 0 ≤ opq ∧ opq ≤ 4) (ha : -1000000 ≤ aq ∧ aq ≤ 1000000) (hbr : -1000000 ≤ bq ∧ bq ≤ 1000000) : gMet l yX1_operate wsX1_operate ({ frames := 1, cells := 0, slots := 0, locals := 60 } : Room) D cy base ad n A J [.ref (ad (12 + 2 * iq)), .long (zL aq), .long (zL bq)] (PX1_operate ad A J iq opq aq bq) := by
  refine g_ofW (cc := cX1_operate) (maxL := 5) (ret := (some .long)) (by decide) rfl (Nat.le_of_ble_eq_true rfl) ?_
  intro pM eM sM mM aM bM methM cM H locs ls hx hb hr hts hown hlocks hml hE hG hl
  have hl : lv_has ls 5 [(0, .ref (ad (12 + 2 * iq))), (1, .long (zL aq)), (3, .long (zL bq))] := hl
  have hinX1 : ∀ w ∈ u_ws RX1 TX1 5, w ∈ wsX1_operate := by decide +kernel
  refine lv_aload_n hx hb dX1_operate_0 rfl (lv_at hl 0 rfl) ?_
  refine g_get (C := RX1) (T := TX1) (NN := 5) (ci := 1) hx hb hts hinX1 hown hE hG (k := 12 + 2 * iq) (by omega) (gw_dv cy ad n _ _ (by omega)) rfl 1 (by decide) (hts (.fieldLink RX1 46 "Commutator$Derived" "operation" "I") (List.mem_of_getElem? (i := 1) rfl)) rfl (v := .int (A (12 + 2 * iq) 1)) rfl dX1_operate_1 ?_
  refine g_top (y := zI opq) (hop.1) ?_
  rcases (show opq = 0 ∨ opq = 1 ∨ opq = 2 ∨ opq = 3 ∨ opq = 4 by omega) with hs4 | hs4 | hs4 | hs4 | hs4
  · refine g_top (y := nI 0) (by rw [hs4]; rfl) ?_
    refine lv_tableIn (tgt := 36) (off := 32) hx hb dX1_operate_4 (by decide) (by decide) (by decide) (by decide) ?_
    refine lv_lload_n hx hb dX1_operate_36 rfl (lv_at hl 1 rfl) ?_
    refine lv_lload_n hx hb dX1_operate_37 rfl (lv_at hl 2 rfl) ?_
    refine lv_ladd hx hb dX1_operate_38 ?_
    refine g_topl (y := zL (aq + bq)) (zL_add _ _) ?_
    exact g_lret hx hb hr hlocks hG ⟨congrArg (fun q9 => some (Value.long (zL q9))) (by unfold mOp; rw [hs4]; rfl), rfl, rfl⟩ dX1_operate_39
  · refine g_top (y := nI 1) (by rw [hs4]; rfl) ?_
    refine lv_tableIn (tgt := 40) (off := 36) hx hb dX1_operate_4 (by decide) (by decide) (by decide) (by decide) ?_
    refine lv_lload_n hx hb dX1_operate_40 rfl (lv_at hl 1 rfl) ?_
    refine lv_lload_n hx hb dX1_operate_41 rfl (lv_at hl 2 rfl) ?_
    refine lv_lsub hx hb dX1_operate_42 ?_
    refine g_topl (y := zL (aq - bq)) (zL_sub _ _) ?_
    exact g_lret hx hb hr hlocks hG ⟨congrArg (fun q9 => some (Value.long (zL q9))) (by unfold mOp; rw [hs4]; rfl), rfl, rfl⟩ dX1_operate_43
  · refine g_top (y := nI 2) (by rw [hs4]; rfl) ?_
    refine lv_tableIn (tgt := 44) (off := 40) hx hb dX1_operate_4 (by decide) (by decide) (by decide) (by decide) ?_
    refine lv_lload_n hx hb dX1_operate_44 rfl (lv_at hl 1 rfl) ?_
    refine lv_lload_n hx hb dX1_operate_45 rfl (lv_at hl 2 rfl) ?_
    refine lv_lmul hx hb dX1_operate_46 ?_
    refine g_topl (y := zL (aq * bq)) (zL_mul _ _) ?_
    exact g_lret hx hb hr hlocks hG ⟨congrArg (fun q9 => some (Value.long (zL q9))) (by unfold mOp; rw [hs4]; rfl), rfl, rfl⟩ dX1_operate_47
  · refine g_top (y := nI 3) (by rw [hs4]; rfl) ?_
    refine lv_tableIn (tgt := 48) (off := 44) hx hb dX1_operate_4 (by decide) (by decide) (by decide) (by decide) ?_
    refine lv_lload_n hx hb dX1_operate_48 rfl (lv_at hl 1 rfl) ?_
    refine lv_lload_n hx hb dX1_operate_49 rfl (lv_at hl 2 rfl) ?_
    refine va_mmax_long hx hb (hml.trans hl.1.symm) hown (hts (.methodLink RX1 33 Lib.MathLoose.max_long.x) (List.mem_of_getElem? (i := 2) rfl)) (hts (.static Lib.MathLoose.max_long.x) (List.mem_of_getElem? (i := 3) rfl)) (hts (.initialized "java/lang/Math") (List.mem_of_getElem? (i := 4) rfl)) (hts (.code Lib.MathLoose.max_long.x Lib.MathLoose.max_long.code 4 (some .long)) (List.mem_of_getElem? (i := 5) rfl)) (Nat.le_of_ble_eq_true rfl) (Nat.le_of_ble_eq_true rfl) (Nat.le_refl _) (Nat.le_refl _) dX1_operate_50 ?_
    refine g_topl (y := zL (if bq < aq then aq else bq)) (zL_max (by omega) (by omega) (by omega) (by omega)) ?_
    exact g_lret hx hb hr hlocks hG ⟨congrArg (fun q9 => some (Value.long (zL q9))) (by unfold mOp; rw [hs4]; rfl), rfl, rfl⟩ dX1_operate_53
  · refine g_top (y := nI 4) (by rw [hs4]; rfl) ?_
    refine lv_tableOut (tgt := 54) hx hb dX1_operate_4 (by decide) (by decide) ?_
    refine lv_lload_n hx hb dX1_operate_54 rfl (lv_at hl 1 rfl) ?_
    refine lv_lload_n hx hb dX1_operate_55 rfl (lv_at hl 2 rfl) ?_
    refine va_mmin_long hx hb (hml.trans hl.1.symm) hown (hts (.methodLink RX1 28 Lib.MathLoose.min_long.x) (List.mem_of_getElem? (i := 6) rfl)) (hts (.static Lib.MathLoose.min_long.x) (List.mem_of_getElem? (i := 7) rfl)) (hts (.initialized "java/lang/Math") (List.mem_of_getElem? (i := 4) rfl)) (hts (.code Lib.MathLoose.min_long.x Lib.MathLoose.min_long.code 4 (some .long)) (List.mem_of_getElem? (i := 8) rfl)) (Nat.le_of_ble_eq_true rfl) (Nat.le_of_ble_eq_true rfl) (Nat.le_refl _) (Nat.le_refl _) dX1_operate_56 ?_
    refine g_topl (y := zL (if bq < aq then bq else aq)) (zL_min (by omega) (by omega) (by omega) (by omega)) ?_
    exact g_lret hx hb hr hlocks hG ⟨congrArg (fun q9 => some (Value.long (zL q9))) (by unfold mOp; rw [hs4]; rfl), rfl, rfl⟩ dX1_operate_59

abbrev PX1_combine (ad : Nat → Nat) (A : Nat → Nat → Int32) (J : Nat → Nat → Int64) (iq ra rb : Nat) (opq xa xb ta tb9 : Int) : Option Value → (Nat → Nat → Int32) → (Nat → Nat → Int64) → Prop := fun v_ A1 J1 => (v_ = none ∧ gu (gu (gu A (12 + 2 * iq + 1) 0 (nI 1)) (12 + 2 * iq + 1) 1 (zI (mMade opq xa xb))) (12 + 2 * iq + 1) 2 (zI (if ta < tb9 then tb9 else ta)) = A1 ∧ J = J1)
set_option maxHeartbeats 4000000 in
set_option maxRecDepth 100000 in
theorem cX1_combineC (l : Launch) (D : va_G) (cy : Nat → ClassId) (base : Nat) (ad : Nat → Nat) (n : Nat) (A : Nat → Nat → Int32) (J : Nat → Nat → Int64) (iq ra rb : Nat) (opq xa xb ta tb9 : Int) (hi : iq < 8) (hop : A (12 + 2 * iq) 1 = zI opq ∧ 0 ≤ opq ∧ opq ≤ 4) (hra : gIsR n ra) (hrb : gIsR n rb) (hxa : A ra 1 = zI xa ∧ -1000000 ≤ xa ∧ xa ≤ 1000000) (hxb : A rb 1 = zI xb ∧ -1000000 ≤ xb ∧ xb ≤ 1000000) (hta : A ra 2 = zI ta ∧ 0 ≤ ta ∧ ta ≤ 1000000000) (htb : A rb 2 = zI tb9 ∧ 0 ≤ tb9 ∧ tb9 ≤ 1000000000) : gMet l yX1_combine wsX1_combine ({ frames := 2, cells := 0, slots := 0, locals := 84 } : Room) D cy base ad n A J [.ref (ad (12 + 2 * iq)), .ref (ad ra), .ref (ad rb)] (PX1_combine ad A J iq ra rb opq xa xb ta tb9) := by
  refine g_ofW (cc := cX1_combine) (maxL := 4) (ret := none) (by decide) rfl (Nat.le_of_ble_eq_true rfl) ?_
  intro pM eM sM mM aM bM methM cM H locs ls hx hb hr hts hown hlocks hml hE hG hl
  have hl : lv_has ls 4 [(0, .ref (ad (12 + 2 * iq))), (1, .ref (ad ra)), (2, .ref (ad rb))] := hl
  have hinX1 : ∀ w ∈ u_ws RX1 TX1 5, w ∈ wsX1_combine := by decide +kernel
  have hinX6 : ∀ w ∈ u_ws RX6 TX6 3, w ∈ wsX1_combine := by decide +kernel
  have hmul : -1000000000000 ≤ xa * xb ∧ xa * xb ≤ 1000000000000 := z_mul6 hxa.2 hxb.2
  have hop9 : -1000000000000 ≤ mOp opq xa xb ∧ mOp opq xa xb ≤ 1000000000000 := by unfold mOp; (repeat' split) <;> omega
  refine lv_ldc2 (v := -1000000) hx hb hown (hts (.constantLong RX1 16 (-1000000)) (List.mem_of_getElem? (i := 1) rfl)) dX1_combine_0 ?_
  refine g_topl (y := zL (-1000000)) (by decide) ?_
  refine lv_ldc2 (v := 1000000) hx hb hown (hts (.constantLong RX1 18 (1000000)) (List.mem_of_getElem? (i := 2) rfl)) dX1_combine_3 ?_
  refine g_topl (y := zL (1000000)) (by decide) ?_
  refine lv_aload_n hx hb dX1_combine_6 rfl (lv_at hl 0 rfl) ?_
  refine lv_aload_n hx hb dX1_combine_7 rfl (lv_at hl 1 rfl) ?_
  refine g_getN (C := RX6) (T := TX6) (NN := 3) (ci := 6) hx hb hts hinX6 hown hE hG (k := ra) hra.1 (gw_r hra) rfl 1 (by decide) 20 rfl rfl (v := .int (A ra 1)) rfl dX1_combine_8 ?_
  refine g_top (y := zI xa) (hxa.1) ?_
  refine lv_i2l (v := zL xa) hx hb dX1_combine_11 (zL_i2l (by omega) (by omega)) ?_
  refine lv_aload_n hx hb dX1_combine_12 rfl (lv_at hl 2 rfl) ?_
  refine g_getN (C := RX6) (T := TX6) (NN := 3) (ci := 6) hx hb hts hinX6 hown hE hG (k := rb) hrb.1 (gw_r hrb) rfl 1 (by decide) 20 rfl rfl (v := .int (A rb 1)) rfl dX1_combine_13 ?_
  refine g_top (y := zI xb) (hxb.1) ?_
  refine lv_i2l (v := zL xb) hx hb dX1_combine_16 (zL_i2l (by omega) (by omega)) ?_
  refine g_callV (As := [.long (zL xa), .long (zL xb)]) (rest := [.long (zL (1000000)), .long (zL (-1000000))]) (r := (RX1, TX1, 5)) ⟨hx, hb, hml, hown, hts⟩ hE hG (cX1_operateC l D cy base ad n A J iq opq xa xb (by first | assumption | omega) (by first | assumption | omega) (by first | assumption | omega) (by first | assumption | omega)) (cwV 2 hts gX1_combine_X1_operate rfl rfl rfl (by decide +kernel) ⟨Nat.le_of_ble_eq_true rfl, Nat.le_of_ble_eq_true rfl⟩) (by omega) (gw_dv cy ad n _ _ (by omega)) rfl rfl hl.1 rfl (Nat.le_of_ble_eq_true rfl) dX1_combine_17 ⟨Nat.zero_le _, Nat.zero_le _⟩ (fun v_ A17 J17 H locs hp hG => ?_)
  obtain ⟨rfl, rfl, rfl⟩ := hp
  refine W.eq (g2 := F0 mM 20 ls [.long (zL (mOp opq xa xb)), .long (zL (1000000)), .long (zL (-1000000))]) rfl ?_
  refine va_mmin_long hx hb (hml.trans hl.1.symm) hown (hts (.methodLink RX1 28 Lib.MathLoose.min_long.x) (List.mem_of_getElem? (i := 3) rfl)) (hts (.static Lib.MathLoose.min_long.x) (List.mem_of_getElem? (i := 4) rfl)) (hts (.initialized "java/lang/Math") (List.mem_of_getElem? (i := 5) rfl)) (hts (.code Lib.MathLoose.min_long.x Lib.MathLoose.min_long.code 4 (some .long)) (List.mem_of_getElem? (i := 6) rfl)) (Nat.le_of_ble_eq_true rfl) (Nat.le_of_ble_eq_true rfl) (Nat.le_refl _) (Nat.le_refl _) dX1_combine_20 ?_
  refine g_topl (y := zL (if (mOp opq xa xb) < (1000000) then (mOp opq xa xb) else (1000000))) (zL_min (by omega) (by omega) (by omega) (by omega)) ?_
  refine va_mmax_long hx hb (hml.trans hl.1.symm) hown (hts (.methodLink RX1 33 Lib.MathLoose.max_long.x) (List.mem_of_getElem? (i := 7) rfl)) (hts (.static Lib.MathLoose.max_long.x) (List.mem_of_getElem? (i := 8) rfl)) (hts (.initialized "java/lang/Math") (List.mem_of_getElem? (i := 5) rfl)) (hts (.code Lib.MathLoose.max_long.x Lib.MathLoose.max_long.code 4 (some .long)) (List.mem_of_getElem? (i := 9) rfl)) (Nat.le_of_ble_eq_true rfl) (Nat.le_of_ble_eq_true rfl) (Nat.le_refl _) (Nat.le_refl _) dX1_combine_23 ?_
  refine g_topl (y := zL (if (if (mOp opq xa xb) < (1000000) then (mOp opq xa xb) else (1000000)) < (-1000000) then (-1000000) else (if (mOp opq xa xb) < (1000000) then (mOp opq xa xb) else (1000000)))) (zL_max (by omega) (by omega) (by omega) (by omega)) ?_
  refine lv_l2i (v := zI (if (if (mOp opq xa xb) < (1000000) then (mOp opq xa xb) else (1000000)) < (-1000000) then (-1000000) else (if (mOp opq xa xb) < (1000000) then (mOp opq xa xb) else (1000000)))) hx hb dX1_combine_26 (zL_l2i _) ?_
  refine g_top (y := zI (mMade opq xa xb)) (congrArg zI (by unfold mMade mClamp; (repeat' split) <;> omega)) ?_
  refine lv_istore_n (lv' := [(3, .int (zI (mMade opq xa xb))), (0, .ref (ad (12 + 2 * iq))), (1, .ref (ad ra)), (2, .ref (ad rb))]) hx hb dX1_combine_27 rfl hl (by decide) rfl (fun ls hl => ?_)
  refine lv_aload_n hx hb dX1_combine_28 rfl (lv_at hl 1 rfl) ?_
  refine g_get (C := RX1) (T := TX1) (NN := 5) (ci := 1) hx hb hts hinX1 hown hE hG (k := 12 + 2 * iq) (by omega) (gw_dv cy ad n _ _ (by omega)) rfl 4 (by decide) (hts (.fieldLink RX1 10 "Commutator$Derived" "result" "LCommutator$Reading;") (List.mem_of_getElem? (i := 10) rfl)) rfl (v := .ref (ad (12 + 2 * iq + 1))) rfl dX1_combine_29 ?_
  refine lv_iload_n hx hb dX1_combine_32 rfl (lv_at hl 0 rfl) ?_
  refine lv_aload_n hx hb dX1_combine_33 rfl (lv_at hl 2 rfl) ?_
  refine g_getN (C := RX6) (T := TX6) (NN := 3) (ci := 6) hx hb hts hinX6 hown hE hG (k := ra) hra.1 (gw_r hra) rfl 2 (by decide) 22 rfl rfl (v := .int (A ra 2)) rfl dX1_combine_34 ?_
  refine g_top (y := zI ta) (hta.1) ?_
  refine lv_aload_n hx hb dX1_combine_37 rfl (lv_at hl 3 rfl) ?_
  refine g_getN (C := RX6) (T := TX6) (NN := 3) (ci := 6) hx hb hts hinX6 hown hE hG (k := rb) hrb.1 (gw_r hrb) rfl 2 (by decide) 22 rfl rfl (v := .int (A rb 2)) rfl dX1_combine_38 ?_
  refine g_top (y := zI tb9) (htb.1) ?_
  refine va_mmax hx hb (hml.trans hl.1.symm) hown (hts (.methodLink RX1 39 Lib.Math.max.name) (List.mem_of_getElem? (i := 11) rfl)) (hts (.static Lib.Math.max.name) (List.mem_of_getElem? (i := 12) rfl)) (hts (.initialized "java/lang/Math") (List.mem_of_getElem? (i := 5) rfl)) (hts (.code Lib.Math.max.name Lib.Math.max.code 2 (some .int)) (List.mem_of_getElem? (i := 13) rfl)) (Nat.le_of_ble_eq_true rfl) (Nat.le_of_ble_eq_true rfl) (Nat.le_refl _) (Nat.le_refl _) dX1_combine_41 ?_
  refine g_top (y := zI (if ta < tb9 then tb9 else ta)) (zI_max (by omega) (by omega) (by omega) (by omega)) ?_
  refine g_callV (As := [.int (zI (mMade opq xa xb)), .int (zI (if ta < tb9 then tb9 else ta))]) (rest := []) (r := (RX6, TX6, 3)) ⟨hx, hb, hml, hown, hts⟩ hE hG (cX6_setC l D cy base ad n A J (12 + 2 * iq + 1) (zI (mMade opq xa xb)) (zI (if ta < tb9 then tb9 else ta)) (by unfold gIsR; omega)) (cwV 2 hts gX1_combine_X6_set rfl rfl rfl (by decide +kernel) ⟨Nat.le_of_ble_eq_true rfl, Nat.le_of_ble_eq_true rfl⟩) (by omega) (gw_rd cy ad n _ _ (by omega)) rfl rfl hl.1 rfl (Nat.le_of_ble_eq_true rfl) dX1_combine_44 ⟨Nat.zero_le _, Nat.zero_le _⟩ (fun v_ A44 J44 H locs hp hG => ?_)
  obtain ⟨rfl, rfl, rfl⟩ := hp
  refine W.eq (g2 := F0 mM 47 ls []) rfl ?_
  exact g_vret hx hb hr hlocks hG ⟨rfl, rfl, rfl⟩ dX1_combine_47

abbrev PX2_define (ad : Nat → Nat) (A : Nat → Nat → Int32) (J : Nat → Nat → Int64) (iq : Nat) (opq fq sq : Int) : Option Value → (Nat → Nat → Int32) → (Nat → Nat → Int64) → Prop := fun v_ A1 J1 => (v_ = none ∧ gu (gu (gu (gu A (12 + 2 * iq) 0 (nI 1)) (12 + 2 * iq) 1 (zI opq)) (12 + 2 * iq) 2 (zI fq)) (12 + 2 * iq) 3 (zI sq) = A1 ∧ J = J1)
set_option maxHeartbeats 4000000 in
set_option maxRecDepth 100000 in
theorem cX2_defineC (l : Launch) (D : va_G) (cy : Nat → ClassId) (base : Nat) (ad : Nat → Nat) (n : Nat) (A : Nat → Nat → Int32) (J : Nat → Nat → Int64) (iq : Nat) (opq fq sq : Int) (hiq : iq < 8) : gMet l yX2_define wsX2_define ({ frames := 1, cells := 0, slots := 0, locals := 21 } : Room) D cy base ad n A J [.ref (ad 10), .int (nI iq), .int (zI opq), .int (zI fq), .int (zI sq)] (PX2_define ad A J iq opq fq sq) := by
  refine g_ofW (cc := cX2_define) (maxL := 6) (ret := none) (by decide) rfl (Nat.le_of_ble_eq_true rfl) ?_
  intro pM eM sM mM aM bM methM cM H locs ls hx hb hr hts hown hlocks hml hE hG hl
  have hl : lv_has ls 6 [(0, .ref (ad 10)), (1, .int (nI iq)), (2, .int (zI opq)), (3, .int (zI fq)), (4, .int (zI sq))] := hl
  have hinX1 : ∀ w ∈ u_ws RX1 TX1 5, w ∈ wsX2_define := by decide +kernel
  have hinX2 : ∀ w ∈ u_ws RX2 TX2 1, w ∈ wsX2_define := by decide +kernel
  refine lv_aload_n hx hb dX2_define_0 rfl (lv_at hl 0 rfl) ?_
  refine lv_iload_n hx hb dX2_define_1 rfl (lv_at hl 1 rfl) ?_
  refine g_callV (As := [.int (nI iq)]) (rest := []) (r := (RX2, TX2, 1)) ⟨hx, hb, hml, hown, hts⟩ hE hG (cX2_atC l D cy base ad n A J iq (by first | assumption | omega)) (cwV 1 hts gX2_define_X2_at rfl rfl rfl (by decide +kernel) ⟨Nat.le_of_ble_eq_true rfl, Nat.le_of_ble_eq_true rfl⟩) (by omega) rfl rfl rfl hl.1 rfl (Nat.le_of_ble_eq_true rfl) dX2_define_2 ⟨Nat.zero_le _, Nat.zero_le _⟩ (fun v_ A2 J2 H locs hp hG => ?_)
  obtain ⟨rfl, rfl, rfl⟩ := hp
  refine W.eq (g2 := F0 mM 5 ls [.ref (ad (12 + 2 * iq))]) rfl ?_
  refine lv_astore (lv' := [(5, .ref (ad (12 + 2 * iq))), (0, .ref (ad 10)), (1, .int (nI iq)), (2, .int (zI opq)), (3, .int (zI fq)), (4, .int (zI sq))]) hx hb dX2_define_5 hl (by decide) rfl (fun ls hl => ?_)
  refine lv_aload hx hb dX2_define_7 (lv_at hl 0 rfl) ?_
  refine lv_ifnonnull (tgt := 13) hx hb dX2_define_9 (by decide) ?_
  refine lv_aload hx hb dX2_define_13 (lv_at hl 0 rfl) ?_
  refine lv_iconst (v := nI 1) hx hb dX2_define_15 (by decide) ?_
  refine g_putiN (C := RX1) (T := TX1) (NN := 5) (ci := 1) hx hb hts hinX1 tyX1 tyX1_ok nmX1 hown hE hG (k := 12 + 2 * iq) (by omega) (gw_dv cy ad n _ _ (by omega)) rfl 0 (by decide) 24 rfl rfl rfl (ty := .boolean) (v := nI 1) (by decide +kernel) rfl rfl (Nat.le_of_ble_eq_true rfl) ((gC_dv cy ad n (by omega) _ _).trans rfl) dX2_define_16 (fun H locs hG => ?_)
  refine lv_aload hx hb dX2_define_19 (lv_at hl 0 rfl) ?_
  refine lv_iload_n hx hb dX2_define_21 rfl (lv_at hl 3 rfl) ?_
  refine g_putiN (C := RX1) (T := TX1) (NN := 5) (ci := 1) hx hb hts hinX1 tyX1 tyX1_ok nmX1 hown hE hG (k := 12 + 2 * iq) (by omega) (gw_dv cy ad n _ _ (by omega)) rfl 1 (by decide) 25 rfl rfl rfl (ty := .int) (v := zI opq) (by decide +kernel) rfl rfl (Nat.le_of_ble_eq_true rfl) ((gC_dv cy ad n (by omega) _ _).trans rfl) dX2_define_22 (fun H locs hG => ?_)
  refine lv_aload hx hb dX2_define_25 (lv_at hl 0 rfl) ?_
  refine lv_iload_n hx hb dX2_define_27 rfl (lv_at hl 4 rfl) ?_
  refine g_putiN (C := RX1) (T := TX1) (NN := 5) (ci := 1) hx hb hts hinX1 tyX1 tyX1_ok nmX1 hown hE hG (k := 12 + 2 * iq) (by omega) (gw_dv cy ad n _ _ (by omega)) rfl 2 (by decide) 26 rfl rfl rfl (ty := .int) (v := zI fq) (by decide +kernel) rfl rfl (Nat.le_of_ble_eq_true rfl) ((gC_dv cy ad n (by omega) _ _).trans rfl) dX2_define_28 (fun H locs hG => ?_)
  refine lv_aload hx hb dX2_define_31 (lv_at hl 0 rfl) ?_
  refine lv_iload hx hb dX2_define_33 (lv_at hl 5 rfl) ?_
  refine g_putiN (C := RX1) (T := TX1) (NN := 5) (ci := 1) hx hb hts hinX1 tyX1 tyX1_ok nmX1 hown hE hG (k := 12 + 2 * iq) (by omega) (gw_dv cy ad n _ _ (by omega)) rfl 3 (by decide) 27 rfl rfl rfl (ty := .int) (v := zI sq) (by decide +kernel) rfl rfl (Nat.le_of_ble_eq_true rfl) ((gC_dv cy ad n (by omega) _ _).trans rfl) dX2_define_35 (fun H locs hG => ?_)
  exact g_vret hx hb hr hlocks hG ⟨rfl, rfl, rfl⟩ dX2_define_38

abbrev PX2_operandMask (ad : Nat → Nat) (A : Nat → Nat → Int32) (J : Nat → Nat → Int64) (oq : Int) : Option Value → (Nat → Nat → Int32) → (Nat → Nat → Int64) → Prop := fun v_ A1 J1 => (v_ = some (.int (nI (om oq))) ∧ A = A1 ∧ J = J1)
set_option maxHeartbeats 4000000 in
set_option maxRecDepth 100000 in
theorem cX2_operandMaskC (l : Launch) (D : va_G) (cy : Nat → ClassId) (base : Nat) (ad : Nat → Nat) (n : Nat) (A : Nat → Nat → Int32) (J : Nat → Nat → Int64) (oq : Int) (hop : isOp oq) : gMet l yX2_operandMask wsX2_operandMask ({ frames := 0, cells := 0, slots := 0, locals := 0 } : Room) D cy base ad n A J [.int (zI oq)] (PX2_operandMask ad A J oq) := by
  refine g_ofW (cc := cX2_operandMask) (maxL := 1) (ret := (some .int)) (by decide) rfl (Nat.le_of_ble_eq_true rfl) ?_
  intro pM eM sM mM aM bM methM cM H locs ls hx hb hr hts hown hlocks hml hE hG hl
  have hl : lv_has ls 1 [(0, .int (zI oq))] := hl
  refine lv_iload_n hx hb dX2_operandMask_0 rfl (lv_at hl 0 rfl) ?_
  refine lv_bipush (v := nI 100) hx hb dX2_operandMask_1 (by decide) ?_
  refine lv_icmp_lt (tgt := 15) hx hb dX2_operandMask_3 (by decide) (fun c3 => ?_) (fun c3 => ?_)
  · skip
    have c3 : oq < ((100 : Nat) : Int) := (cmp_lt (zI_toInt (by omega) (by omega)) (nI_toInt (by omega))).mp c3
    refine lv_iconst (v := nI 0) hx hb dX2_operandMask_15 (by decide) ?_
    exact g_iret hx hb hr hlocks hG ⟨congrArg (fun q9 => some (Value.int (nI q9))) (by unfold om; rw [if_neg (by omega)]), rfl, rfl⟩ dX2_operandMask_16
  · skip
    have c3 : ¬ (oq < ((100 : Nat) : Int)) := fun z9 => c3 ((cmp_lt (zI_toInt (by omega) (by omega)) (nI_toInt (by omega))).mpr z9)
    refine lv_iconst (v := nI 1) hx hb dX2_operandMask_6 (by decide) ?_
    refine lv_iload_n hx hb dX2_operandMask_7 rfl (lv_at hl 0 rfl) ?_
    refine lv_bipush (v := nI 100) hx hb dX2_operandMask_8 (by decide) ?_
    refine lv_isub hx hb dX2_operandMask_10 ?_
    refine g_top (y := zI (oq - 100)) (zI_sub_in _ _) ?_
    refine lv_ishl hx hb dX2_operandMask_11 ?_
    refine g_top (y := nI (om oq)) (shl_om (by omega) (by omega)) ?_
    refine lv_goto (tgt := 16) hx hb dX2_operandMask_12 (by decide) ?_
    exact g_iret hx hb hr hlocks hG ⟨rfl, rfl, rfl⟩ dX2_operandMask_16
