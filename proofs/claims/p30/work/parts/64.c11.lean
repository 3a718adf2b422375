abbrev PX2_needsOf (ad : Nat → Nat) (A : Nat → Nat → Int32) (J : Nat → Nat → Int64) (G : Nat → Nat → Int) (mq : Nat) : Option Value → (Nat → Nat → Int32) → (Nat → Nat → Int64) → Prop := fun v_ A1 J1 => (v_ = some (.int (nI (gNd G mq 8))) ∧ A = A1 ∧ J = J1)
set_option maxHeartbeats 4000000 in
set_option maxRecDepth 100000 in
theorem cX2_needsOfC (l : Launch) (D : va_G) (cy : Nat → ClassId) (base : Nat) (ad : Nat → Nat) (n : Nat) (A : Nat → Nat → Int32) (J : Nat → Nat → Int64) (G : Nat → Nat → Int) (mq : Nat) (hcd : CDv A G) (hdv : mDvOk G) (hmq : mq < 256) : gMet l yX2_needsOf wsX2_needsOf ({ frames := 1, cells := 0, slots := 0, locals := 20 } : Room) D cy base ad n A J [.ref (ad 10), .int (nI mq)] (PX2_needsOf ad A J G mq) := by
  refine g_ofW (cc := cX2_needsOf) (maxL := 5) (ret := (some .int)) (by decide) rfl (Nat.le_of_ble_eq_true rfl) ?_
  intro pM eM sM mM aM bM methM cM H locs ls hx hb hr hts hown hlocks hml hE hG hl
  have hl : lv_has ls 5 [(0, .ref (ad 10)), (1, .int (nI mq))] := hl
  have hinX1 : ∀ w ∈ u_ws RX1 TX1 5, w ∈ wsX2_needsOf := by decide +kernel
  have hinX2 : ∀ w ∈ u_ws RX2 TX2 1, w ∈ wsX2_needsOf := by decide +kernel
  refine lv_iconst (v := nI 0) hx hb dX2_needsOf_0 (by decide) ?_
  refine lv_istore_n (lv' := [(2, .int (nI 0)), (0, .ref (ad 10)), (1, .int (nI mq))]) hx hb dX2_needsOf_1 rfl hl (by decide) rfl (fun ls hl => ?_)
  refine lv_iconst (v := nI 0) hx hb dX2_needsOf_2 (by decide) ?_
  refine lv_istore_n (lv' := [(3, .int (nI 0)), (2, .int (nI 0)), (0, .ref (ad 10)), (1, .int (nI mq))]) hx hb dX2_needsOf_3 rfl hl (by decide) rfl (fun ls hl => ?_)
  have LLq4 : ∀ (fuel : Nat) (kq : Nat) (hkq : kq ≤ 8) (_ : 8 - kq < fuel) (H : Heap) (locs : List Loc) (ls : Array Slot), gH D base sM ad (33 + 2 * n) (gw cy ad n A J) H locs → lv_has ls 5 [(3, .int (nI kq)), (2, .int (nI (gNd G mq kq))), (0, .ref (ad 10)), (1, .int (nI mq))] → W pM l eM ({ frames := 1, cells := 0, slots := 0, locals := 20 } : Room) sM mM aM bM methM cM H locs 0 0 (MQ bM (gPost D cy base ad n (PX2_needsOf ad A J G mq)) aM sM 0 0 (fun q => base ≤ q)) (F0 mM 4 ls []) := by
    intro fuel
    induction fuel with
    | zero => intro kq hkq hms H locs ls hG hl; exact absurd hms (Nat.not_lt_zero _)
    | succ fuel ihq4 =>
      intro kq hkq hms H locs ls hG hl
      have hdq := hdv kq
      have hdf := gDf_1 G kq
      have hnl := Nd_lt hdv mq kq
      have ho4 := om_lt (o := G 44 kq) (by omega)
      have ho5 := om_lt (o := G 45 kq) (by omega)
      have htl := tbN_le mq kq
      have ho6 := or_256 ho4 ho5
      refine lv_iload_n hx hb dX2_needsOf_4 rfl (lv_at hl 0 rfl) ?_
      refine lv_aload_n hx hb dX2_needsOf_5 rfl (lv_at hl 2 rfl) ?_
      refine g_get (C := RX2) (T := TX2) (NN := 1) (ci := 2) hx hb hts hinX2 hown hE hG (k := 10) (by omega) rfl rfl 0 (by decide) (hts (.fieldLink RX2 11 "Commutator$DerivedTable" "rows" "[LCommutator$Derived;") (List.mem_of_getElem? (i := 1) rfl)) rfl (v := .ref (ad 11)) rfl dX2_needsOf_6 ?_
      refine g_alen hx hb hE hG (k := 11) (t0 := 3) (v := nI 8) (by omega) rfl rfl rfl dX2_needsOf_9 ?_
      refine lv_icmp_ge (tgt := 68) hx hb dX2_needsOf_10 (by decide) (fun c10 => ?_) (fun c10 => ?_)
      · skip
        have c10 : 8 ≤ kq := (nI_leI (by omega) (by omega)).mp c10
        refine lv_iload_n hx hb dX2_needsOf_68 rfl (lv_at hl 1 rfl) ?_
        exact g_iret hx hb hr hlocks hG ⟨(by rw [show kq = 8 from by omega]), rfl, rfl⟩ dX2_needsOf_69
      · skip
        have c10 : ¬ (8 ≤ kq) := fun z9 => c10 ((nI_leI (by omega) (by omega)).mpr z9)
        refine lv_aload_n hx hb dX2_needsOf_13 rfl (lv_at hl 2 rfl) ?_
        refine g_get (C := RX2) (T := TX2) (NN := 1) (ci := 2) hx hb hts hinX2 hown hE hG (k := 10) (by omega) rfl rfl 0 (by decide) (hts (.fieldLink RX2 11 "Commutator$DerivedTable" "rows" "[LCommutator$Derived;") (List.mem_of_getElem? (i := 1) rfl)) rfl (v := .ref (ad 11)) rfl dX2_needsOf_14 ?_
        refine lv_iload_n hx hb dX2_needsOf_17 rfl (lv_at hl 0 rfl) ?_
        refine g_aald hx hb hE hG (k := 11) (t0 := 3) (by omega) rfl rfl kq (rfl) (by omega) (by omega) dX2_needsOf_18 (v := .ref (ad (12 + 2 * kq))) (by show va_rf (if kq < 8 then some (ad (12 + 2 * kq)) else none) = _; rw [if_pos (by omega)]; rfl) ?_
        refine lv_astore (lv' := [(4, .ref (ad (12 + 2 * kq))), (3, .int (nI kq)), (2, .int (nI (gNd G mq kq))), (0, .ref (ad 10)), (1, .int (nI mq))]) hx hb dX2_needsOf_19 hl (by decide) rfl (fun ls hl => ?_)
        refine lv_aload hx hb dX2_needsOf_21 (lv_at hl 0 rfl) ?_
        refine lv_ifnull hx hb dX2_needsOf_23 ?_
        refine lv_aload hx hb dX2_needsOf_26 (lv_at hl 0 rfl) ?_
        refine g_getN (C := RX1) (T := TX1) (NN := 5) (ci := 1) hx hb hts hinX1 hown hE hG (k := 12 + 2 * kq) (by omega) (gw_dv cy ad n _ _ (by omega)) rfl 0 (by decide) 24 rfl rfl (v := .int (A (12 + 2 * kq) 0)) rfl dX2_needsOf_28 ?_
        refine g_top (y := nI (gDf G kq)) (CDv_0 hcd (by omega)) ?_
        refine lv_if_eq (tgt := 62) hx hb dX2_needsOf_31 (by decide) (fun c31 => ?_) (fun c31 => ?_)
        · skip
          have c31 : (nI (gDf G kq)) = nI 0 := c31
          have c31 : (gDf G kq) = 0 := (nI_eq (by omega) (by omega)).mp c31
          have e9 := gNd_n (G := G) (m := mq) (k := kq) (fun z9 => z9.1 (hdf.2.mp c31))
          rw [e9] at hl
          refine lv_iinc (v := nI (kq + 1)) (lv' := [(3, .int (nI (kq + 1))), (4, .ref (ad (12 + 2 * kq))), (2, .int (nI (gNd G mq (kq + 1)))), (0, .ref (ad 10)), (1, .int (nI mq))]) hx hb dX2_needsOf_62 hl (k := 1) rfl (by rw [show (Int32.ofInt 1 : Int32) = nI 1 from rfl, nI_add]) (by decide) rfl (fun ls hl => ?_)
          refine lv_goto (tgt := 4) hx hb dX2_needsOf_65 (by decide) ?_
          exact ihq4 (kq + 1) (by omega) (by omega) _ _ _ hG (lv_sub hl [0, 2, 3, 4] rfl)
        · skip
          have c31 : ¬ ((nI (gDf G kq)) = nI 0) := c31
          have c31 : ¬ ((gDf G kq) = 0) := fun z9 => c31 ((nI_eq (by omega) (by omega)).mpr z9)
          have hd43 : G 43 kq ≠ -1 := fun z9 => c31 (hdf.2.mpr z9)
          refine lv_iload_n hx hb dX2_needsOf_34 rfl (lv_at hl 4 rfl) ?_
          refine lv_iload_n hx hb dX2_needsOf_35 rfl (lv_at hl 1 rfl) ?_
          refine lv_ishr hx hb dX2_needsOf_36 ?_
          refine g_top (y := nI mq >>> (nI kq &&& 31)) (rfl) ?_
          refine lv_iconst (v := nI 1) hx hb dX2_needsOf_37 (by decide) ?_
          refine lv_iand hx hb dX2_needsOf_38 ?_
          refine g_top (y := nI (tbN mq kq)) (z_tbN (by omega) (by omega)) ?_
          refine lv_if_eq (tgt := 62) hx hb dX2_needsOf_39 (by decide) (fun c39 => ?_) (fun c39 => ?_)
          · skip
            have c39 : (nI (tbN mq kq)) = nI 0 := c39
            have c39 : (tbN mq kq) = 0 := (nI_eq (by omega) (by omega)).mp c39
            have e9 := gNd_n (G := G) (m := mq) (k := kq) (fun z9 => by have h9 := tbN_1.mpr z9.2; omega)
            rw [e9] at hl
            refine lv_iinc (v := nI (kq + 1)) (lv' := [(3, .int (nI (kq + 1))), (4, .ref (ad (12 + 2 * kq))), (2, .int (nI (gNd G mq (kq + 1)))), (0, .ref (ad 10)), (1, .int (nI mq))]) hx hb dX2_needsOf_62 hl (k := 1) rfl (by rw [show (Int32.ofInt 1 : Int32) = nI 1 from rfl, nI_add]) (by decide) rfl (fun ls hl => ?_)
            refine lv_goto (tgt := 4) hx hb dX2_needsOf_65 (by decide) ?_
            exact ihq4 (kq + 1) (by omega) (by omega) _ _ _ hG (lv_sub hl [0, 2, 3, 4] rfl)
          · skip
            have c39 : ¬ ((nI (tbN mq kq)) = nI 0) := c39
            have c39 : ¬ ((tbN mq kq) = 0) := fun z9 => c39 ((nI_eq (by omega) (by omega)).mpr z9)
            have htb : mq.testBit kq = true := tbN_1.mp (by omega)
            refine lv_iload_n hx hb dX2_needsOf_42 rfl (lv_at hl 2 rfl) ?_
            refine lv_aload hx hb dX2_needsOf_43 (lv_at hl 0 rfl) ?_
            refine g_getN (C := RX1) (T := TX1) (NN := 5) (ci := 1) hx hb hts hinX1 hown hE hG (k := 12 + 2 * kq) (by omega) (gw_dv cy ad n _ _ (by omega)) rfl 2 (by decide) 26 rfl rfl (v := .int (A (12 + 2 * kq) 2)) rfl dX2_needsOf_45 ?_
            refine g_top (y := zI (G 44 kq)) (((hcd kq (by omega)).2 hd43).2.2.1) ?_
            refine g_callS (As := [.int (zI (G 44 kq))]) (rest := [.int (nI (gNd G mq kq))]) ⟨hx, hb, hml, hown, hts⟩ hE hG (cX2_operandMaskC l D cy base ad n A J (G 44 kq) (by first | assumption | omega)) (va_cwS 1 hts gX2_needsOf_X2_operandMask rfl rfl rfl (by decide +kernel) ⟨Nat.le_of_ble_eq_true rfl, Nat.le_of_ble_eq_true rfl⟩) rfl hl.1 rfl (Nat.le_of_ble_eq_true rfl) dX2_needsOf_48 ⟨Nat.zero_le _, Nat.zero_le _⟩ (fun v_ A48 J48 H locs hp hG => ?_)
            obtain ⟨rfl, rfl, rfl⟩ := hp
            refine W.eq (g2 := F0 mM 51 ls [.int (nI (om (G 44 kq))), .int (nI (gNd G mq kq))]) rfl ?_
            refine lv_aload hx hb dX2_needsOf_51 (lv_at hl 0 rfl) ?_
            refine g_getN (C := RX1) (T := TX1) (NN := 5) (ci := 1) hx hb hts hinX1 hown hE hG (k := 12 + 2 * kq) (by omega) (gw_dv cy ad n _ _ (by omega)) rfl 3 (by decide) 27 rfl rfl (v := .int (A (12 + 2 * kq) 3)) rfl dX2_needsOf_53 ?_
            refine g_top (y := zI (G 45 kq)) (((hcd kq (by omega)).2 hd43).2.2.2) ?_
            refine g_callS (As := [.int (zI (G 45 kq))]) (rest := [.int (nI (om (G 44 kq))), .int (nI (gNd G mq kq))]) ⟨hx, hb, hml, hown, hts⟩ hE hG (cX2_operandMaskC l D cy base ad n A J (G 45 kq) (by first | assumption | omega)) (va_cwS 1 hts gX2_needsOf_X2_operandMask rfl rfl rfl (by decide +kernel) ⟨Nat.le_of_ble_eq_true rfl, Nat.le_of_ble_eq_true rfl⟩) rfl hl.1 rfl (Nat.le_of_ble_eq_true rfl) dX2_needsOf_56 ⟨Nat.zero_le _, Nat.zero_le _⟩ (fun v_ A56 J56 H locs hp hG => ?_)
            obtain ⟨rfl, rfl, rfl⟩ := hp
            refine W.eq (g2 := F0 mM 59 ls [.int (nI (om (G 45 kq))), .int (nI (om (G 44 kq))), .int (nI (gNd G mq kq))]) rfl ?_
            refine lv_ior hx hb dX2_needsOf_59 ?_
            refine g_top (y := nI (om (G 44 kq) ||| om (G 45 kq))) (nI_or (by omega) (by omega)) ?_
            refine lv_ior hx hb dX2_needsOf_60 ?_
            refine g_top (y := nI (gNd G mq (kq + 1))) ((nI_or (by omega) (by omega)).trans (congrArg nI (gNd_y ⟨hd43, htb⟩))) ?_
            refine lv_istore_n (lv' := [(2, .int (nI (gNd G mq (kq + 1)))), (4, .ref (ad (12 + 2 * kq))), (3, .int (nI kq)), (0, .ref (ad 10)), (1, .int (nI mq))]) hx hb dX2_needsOf_61 rfl hl (by decide) rfl (fun ls hl => ?_)
            refine lv_iinc (v := nI (kq + 1)) (lv' := [(3, .int (nI (kq + 1))), (2, .int (nI (gNd G mq (kq + 1)))), (4, .ref (ad (12 + 2 * kq))), (0, .ref (ad 10)), (1, .int (nI mq))]) hx hb dX2_needsOf_62 hl (k := 2) rfl (by rw [show (Int32.ofInt 1 : Int32) = nI 1 from rfl, nI_add]) (by decide) rfl (fun ls hl => ?_)
            refine lv_goto (tgt := 4) hx hb dX2_needsOf_65 (by decide) ?_
            exact ihq4 (kq + 1) (by omega) (by omega) _ _ _ hG (lv_sub hl [0, 1, 3, 4] rfl)
  exact LLq4 _ 0 (by omega) (Nat.lt_succ_self _) _ _ _ hG (lv_sub hl [0, 1, 2, 3] rfl)

abbrev PX2_wouldNeedItself (ad : Nat → Nat) (A : Nat → Nat → Int32) (J : Nat → Nat → Int64) (G : Nat → Nat → Int) (iq : Nat) (fq sq : Int) : Option Value → (Nat → Nat → Int32) → (Nat → Nat → Int64) → Prop := fun v_ A1 J1 => (v_ = some (.int (nI 1)) ∧ A = A1 ∧ J = J1 ∧ ((mReach G fq sq).testBit iq = true)) ∨ (v_ = some (.int (nI 0)) ∧ A = A1 ∧ J = J1 ∧ (¬ ((mReach G fq sq).testBit iq = true)))
set_option maxHeartbeats 4000000 in
set_option maxRecDepth 100000 in
theorem cX2_wouldNeedItselfC (l : Launch) (D : va_G) (cy : Nat → ClassId) (base : Nat) (ad : Nat → Nat) (n : Nat) (A : Nat → Nat → Int32) (J : Nat → Nat → Int64) (G : Nat → Nat → Int) (iq : Nat) (fq sq : Int) (hcd : CDv A G) (hdv : mDvOk G) (hiq : iq < 8) (hf : isOp fq) (hs : isOp sq) : gMet l yX2_wouldNeedItself wsX2_wouldNeedItself ({ frames := 2, cells := 0, slots := 0, locals := 44 } : Room) D cy base ad n A J [.ref (ad 10), .int (nI iq), .int (zI fq), .int (zI sq)] (PX2_wouldNeedItself ad A J G iq fq sq) := by
  refine g_ofW (cc := cX2_wouldNeedItself) (maxL := 6) (ret := (some .boolean)) (by decide) rfl (Nat.le_of_ble_eq_true rfl) ?_
  intro pM eM sM mM aM bM methM cM H locs ls hx hb hr hts hown hlocks hml hE hG hl
  have hl : lv_has ls 6 [(0, .ref (ad 10)), (1, .int (nI iq)), (2, .int (zI fq)), (3, .int (zI sq))] := hl
  have hinX1 : ∀ w ∈ u_ws RX1 TX1 5, w ∈ wsX2_wouldNeedItself := by decide +kernel
  have hinX2 : ∀ w ∈ u_ws RX2 TX2 1, w ∈ wsX2_wouldNeedItself := by decide +kernel
  have ho4 := om_lt (o := fq) (by omega)
  have ho5 := om_lt (o := sq) (by omega)
  have ho6 := or_256 ho4 ho5
  refine lv_iload_n hx hb dX2_wouldNeedItself_0 rfl (lv_at hl 2 rfl) ?_
  refine g_callS (As := [.int (zI fq)]) (rest := []) ⟨hx, hb, hml, hown, hts⟩ hE hG (cX2_operandMaskC l D cy base ad n A J fq hf) (va_cwS 1 hts gX2_wouldNeedItself_X2_operandMask rfl rfl rfl (by decide +kernel) ⟨Nat.le_of_ble_eq_true rfl, Nat.le_of_ble_eq_true rfl⟩) rfl hl.1 rfl (Nat.le_of_ble_eq_true rfl) dX2_wouldNeedItself_1 ⟨Nat.zero_le _, Nat.zero_le _⟩ (fun v_ A1 J1 H locs hp hG => ?_)
  obtain ⟨rfl, rfl, rfl⟩ := hp
  refine W.eq (g2 := F0 mM 4 ls [.int (nI (om fq))]) rfl ?_
  refine lv_iload_n hx hb dX2_wouldNeedItself_4 rfl (lv_at hl 3 rfl) ?_
  refine g_callS (As := [.int (zI sq)]) (rest := [.int (nI (om fq))]) ⟨hx, hb, hml, hown, hts⟩ hE hG (cX2_operandMaskC l D cy base ad n A J sq hs) (va_cwS 1 hts gX2_wouldNeedItself_X2_operandMask rfl rfl rfl (by decide +kernel) ⟨Nat.le_of_ble_eq_true rfl, Nat.le_of_ble_eq_true rfl⟩) rfl hl.1 rfl (Nat.le_of_ble_eq_true rfl) dX2_wouldNeedItself_5 ⟨Nat.zero_le _, Nat.zero_le _⟩ (fun v_ A5 J5 H locs hp hG => ?_)
  obtain ⟨rfl, rfl, rfl⟩ := hp
  refine W.eq (g2 := F0 mM 8 ls [.int (nI (om sq)), .int (nI (om fq))]) rfl ?_
  refine lv_ior hx hb dX2_wouldNeedItself_8 ?_
  refine g_top (y := nI (om fq ||| om sq)) (nI_or (by omega) (by omega)) ?_
  refine lv_istore (lv' := [(4, .int (nI (om fq ||| om sq))), (0, .ref (ad 10)), (1, .int (nI iq)), (2, .int (zI fq)), (3, .int (zI sq))]) hx hb dX2_wouldNeedItself_9 hl (by decide) rfl (fun ls hl => ?_)
  refine lv_iconst (v := nI 0) hx hb dX2_wouldNeedItself_11 (by decide) ?_
  refine lv_istore (lv' := [(5, .int (nI 0)), (4, .int (nI (om fq ||| om sq))), (0, .ref (ad 10)), (1, .int (nI iq)), (2, .int (zI fq)), (3, .int (zI sq))]) hx hb dX2_wouldNeedItself_12 hl (by decide) rfl (fun ls hl => ?_)
  have LLq14 : ∀ (fuel : Nat) (rq : Nat) (hrq : rq ≤ 8) (_ : 8 - rq < fuel) (H : Heap) (locs : List Loc) (ls : Array Slot), gH D base sM ad (33 + 2 * n) (gw cy ad n A J) H locs → lv_has ls 6 [(5, .int (nI rq)), (4, .int (nI (gJc G (om fq ||| om sq) rq))), (0, .ref (ad 10)), (1, .int (nI iq)), (2, .int (zI fq)), (3, .int (zI sq))] → W pM l eM ({ frames := 2, cells := 0, slots := 0, locals := 44 } : Room) sM mM aM bM methM cM H locs 0 0 (MQ bM (gPost D cy base ad n (PX2_wouldNeedItself ad A J G iq fq sq)) aM sM 0 0 (fun q => base ≤ q)) (F0 mM 14 ls []) := by
    intro fuel
    induction fuel with
    | zero => intro rq hrq hms H locs ls hG hl; exact absurd hms (Nat.not_lt_zero _)
    | succ fuel ihq14 =>
      intro rq hrq hms H locs ls hG hl
      have hjl := Jc_lt hdv ho6 rq
      have hnl := Nd_lt hdv (gJc G (om fq ||| om sq) rq) 8
      have htl := tbN_le (gJc G (om fq ||| om sq) rq) iq
      refine lv_iload hx hb dX2_wouldNeedItself_14 (lv_at hl 0 rfl) ?_
      refine lv_aload_n hx hb dX2_wouldNeedItself_16 rfl (lv_at hl 2 rfl) ?_
      refine g_get (C := RX2) (T := TX2) (NN := 1) (ci := 2) hx hb hts hinX2 hown hE hG (k := 10) (by omega) rfl rfl 0 (by decide) (hts (.fieldLink RX2 11 "Commutator$DerivedTable" "rows" "[LCommutator$Derived;") (List.mem_of_getElem? (i := 1) rfl)) rfl (v := .ref (ad 11)) rfl dX2_wouldNeedItself_17 ?_
      refine g_alen hx hb hE hG (k := 11) (t0 := 3) (v := nI 8) (by omega) rfl rfl rfl dX2_wouldNeedItself_20 ?_
      refine lv_icmp_ge (tgt := 41) hx hb dX2_wouldNeedItself_21 (by decide) (fun c21 => ?_) (fun c21 => ?_)
      · skip
        have c21 : 8 ≤ rq := (nI_leI (by omega) (by omega)).mp c21
        have hr8 : rq = 8 := by omega
        have hre := Jc_reach hdv hf hs iq
        have hbt := tbN_1 (m := gJc G (om fq ||| om sq) rq) (k := iq)
        refine lv_iload hx hb dX2_wouldNeedItself_41 (lv_at hl 1 rfl) ?_
        refine lv_iload_n hx hb dX2_wouldNeedItself_43 rfl (lv_at hl 3 rfl) ?_
        refine lv_ishr hx hb dX2_wouldNeedItself_44 ?_
        refine g_top (y := nI (gJc G (om fq ||| om sq) rq) >>> (nI iq &&& 31)) (rfl) ?_
        refine lv_iconst (v := nI 1) hx hb dX2_wouldNeedItself_45 (by decide) ?_
        refine lv_iand hx hb dX2_wouldNeedItself_46 ?_
        refine g_top (y := nI (tbN (gJc G (om fq ||| om sq) rq) iq)) (z_tbN (by omega) (by omega)) ?_
        refine lv_if_eq (tgt := 54) hx hb dX2_wouldNeedItself_47 (by decide) (fun c47 => ?_) (fun c47 => ?_)
        · skip
          have c47 : (nI (tbN (gJc G (om fq ||| om sq) rq) iq)) = nI 0 := c47
          have c47 : (tbN (gJc G (om fq ||| om sq) rq) iq) = 0 := (nI_eq (by omega) (by omega)).mp c47
          refine lv_iconst (v := nI 0) hx hb dX2_wouldNeedItself_54 (by decide) ?_
          exact g_zret hx hb hr hlocks hG rfl (Or.inr ⟨rfl, rfl, rfl, fun z9 => by have h9 := hre.mpr z9; rw [← hr8] at h9; have h8 := hbt.mpr h9; omega⟩) dX2_wouldNeedItself_55
        · skip
          have c47 : ¬ ((nI (tbN (gJc G (om fq ||| om sq) rq) iq)) = nI 0) := c47
          have c47 : ¬ ((tbN (gJc G (om fq ||| om sq) rq) iq) = 0) := fun z9 => c47 ((nI_eq (by omega) (by omega)).mpr z9)
          refine lv_iconst (v := nI 1) hx hb dX2_wouldNeedItself_50 (by decide) ?_
          refine lv_goto (tgt := 55) hx hb dX2_wouldNeedItself_51 (by decide) ?_
          exact g_zret hx hb hr hlocks hG rfl (Or.inl ⟨rfl, rfl, rfl, hre.mp (by rw [← hr8]; exact hbt.mp (by omega))⟩) dX2_wouldNeedItself_55
      · skip
        have c21 : ¬ (8 ≤ rq) := fun z9 => c21 ((nI_leI (by omega) (by omega)).mpr z9)
        refine lv_iload hx hb dX2_wouldNeedItself_24 (lv_at hl 1 rfl) ?_
        refine lv_aload_n hx hb dX2_wouldNeedItself_26 rfl (lv_at hl 2 rfl) ?_
        refine lv_iload hx hb dX2_wouldNeedItself_27 (lv_at hl 1 rfl) ?_
        refine g_callV (As := [.int (nI (gJc G (om fq ||| om sq) rq))]) (rest := [.int (nI (gJc G (om fq ||| om sq) rq))]) (r := (RX2, TX2, 1)) ⟨hx, hb, hml, hown, hts⟩ hE hG (cX2_needsOfC l D cy base ad n A J G (gJc G (om fq ||| om sq) rq) (by first | assumption | omega) (by first | assumption | omega) (by first | assumption | omega)) (cwV 1 hts gX2_wouldNeedItself_X2_needsOf rfl rfl rfl (by decide +kernel) ⟨Nat.le_of_ble_eq_true rfl, Nat.le_of_ble_eq_true rfl⟩) (by omega) rfl rfl rfl hl.1 rfl (Nat.le_of_ble_eq_true rfl) dX2_wouldNeedItself_29 ⟨Nat.zero_le _, Nat.zero_le _⟩ (fun v_ A29 J29 H locs hp hG => ?_)
        obtain ⟨rfl, rfl, rfl⟩ := hp
        refine W.eq (g2 := F0 mM 32 ls [.int (nI (gNd G (gJc G (om fq ||| om sq) rq) 8)), .int (nI (gJc G (om fq ||| om sq) rq))]) rfl ?_
        refine lv_ior hx hb dX2_wouldNeedItself_32 ?_
        refine g_top (y := nI (gJc G (om fq ||| om sq) (rq + 1))) (nI_or (by omega) (by omega)) ?_
        refine lv_istore (lv' := [(4, .int (nI (gJc G (om fq ||| om sq) (rq + 1)))), (5, .int (nI rq)), (0, .ref (ad 10)), (1, .int (nI iq)), (2, .int (zI fq)), (3, .int (zI sq))]) hx hb dX2_wouldNeedItself_33 hl (by decide) rfl (fun ls hl => ?_)
        refine lv_iinc (v := nI (rq + 1)) (lv' := [(5, .int (nI (rq + 1))), (4, .int (nI (gJc G (om fq ||| om sq) (rq + 1)))), (0, .ref (ad 10)), (1, .int (nI iq)), (2, .int (zI fq)), (3, .int (zI sq))]) hx hb dX2_wouldNeedItself_35 hl (k := 1) rfl (by rw [show (Int32.ofInt 1 : Int32) = nI 1 from rfl, nI_add]) (by decide) rfl (fun ls hl => ?_)
        refine lv_goto (tgt := 14) hx hb dX2_wouldNeedItself_38 (by decide) ?_
        exact ihq14 (rq + 1) (by omega) (by omega) _ _ _ hG (lv_sub hl [0, 1, 2, 3, 4, 5] rfl)
  exact LLq14 _ 0 (by omega) (Nat.lt_succ_self _) _ _ _ hG (lv_sub hl [0, 1, 2, 3, 4, 5] rfl)
