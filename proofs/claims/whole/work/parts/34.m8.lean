abbrev PX10_takes (ad : Nat → Nat) (A : Nat → Nat → Int32) (J : Nat → Nat → Int64) (G : Nat → Nat → Int) (bq : Int) : Option Value → (Nat → Nat → Int32) → (Nat → Nat → Int64) → Prop := fun v_ A1 J1 => (v_ = some (.int (zI (mUsed G bq))) ∧ J = J1 ∧ (MRep A1 (mTake G bq)) ∧ (MOnly A A1) ∧ (A1 28 34 = A 28 34))
set_option maxHeartbeats 4000000 in
set_option maxRecDepth 100000 in
theorem cX10_takesC (l : Launch) (D : va_G) (cy : Nat → ClassId) (base : Nat) (ad : Nat → Nat) (n : Nat) (A : Nat → Nat → Int32) (J : Nat → Nat → Int64) (G : Nat → Nat → Int) (bq : Int) (hM : MRep A G) (hok : mRcvOk G) (ht8 : G 28 12 < 8000) (hbq : bq = 0 ∨ bq = 1) : gMet l yX10_takes wsX10_takes ({ frames := 3, cells := 0, slots := 0, locals := 71 } : Room) D cy base ad n A J [.ref (ad 28), .int (zI bq)] (PX10_takes ad A J G bq) := by
  refine g_ofW (cc := cX10_takes) (maxL := 2) (ret := (some .int)) (by decide) rfl (Nat.le_of_ble_eq_true rfl) ?_
  intro pM eM sM mM aM bM methM cM H locs ls hx hb hr hts hown hlocks hml hE hG hl
  have hl : lv_has ls 2 [(0, .ref (ad 28)), (1, .int (zI bq))] := hl
  have hinX10 : ∀ w ∈ u_ws RX10 TX10 35, w ∈ wsX10_takes := by decide +kernel
  obtain ⟨hT, hp, ht0, hst, hnr, hsa⟩ := id hok
  obtain ⟨n1, n2, n3, n4, n5, n6, n7, n8⟩ := hnr
  have hR1 : MRep (gu (gu A 38 (G 28 12).toNat (zI bq)) 28 12 (zI (G 28 12 + 1))) (mT1 G bq) := (hM.up 38 _ bq).up 28 12 _
  have hOt : MOnly A (gu (gu A 38 (G 28 12).toNat (zI bq)) 28 12 (zI (G 28 12 + 1))) := ((MOnly.rf.up _ _ (by decide) (by decide)).up _ _ (by decide) (by decide))
  have hp1 : mPast (mT1 G bq) := hp.t1 hbq
  have hbr := mBits_12 hp1 (G 28 12 + 1 - 8) (q := 8) (by omega)
  refine lv_aload_n hx hb dX10_takes_0 rfl (lv_at hl 0 rfl) ?_
  refine g_get (C := RX10) (T := TX10) (NN := 35) (ci := 10) hx hb hts hinX10 hown hE hG (k := 28) (by omega) rfl rfl 13 (by decide) (hts (.fieldLink RX10 37 "CommutatorModel" "past" "[I") (List.mem_of_getElem? (i := 1) rfl)) rfl (v := .ref (ad 38)) rfl dX10_takes_1 ?_
  refine lv_aload_n hx hb dX10_takes_4 rfl (lv_at hl 0 rfl) ?_
  refine g_get (C := RX10) (T := TX10) (NN := 35) (ci := 10) hx hb hts hinX10 hown hE hG (k := 28) (by omega) rfl rfl 12 (by decide) (hts (.fieldLink RX10 164 "CommutatorModel" "taken" "I") (List.mem_of_getElem? (i := 2) rfl)) rfl (v := .int (A 28 12)) rfl dX10_takes_5 ?_
  refine g_top (y := zI (G 28 12)) (hM 28 12 (by omega) (by omega) (by omega)) ?_
  refine lv_iload_n hx hb dX10_takes_8 rfl (lv_at hl 1 rfl) ?_
  refine g_iast hx hb hE hG (k := 38) (by omega) (fun _ => rfl) ((G 28 12).toNat) (zI_nat (by omega)) (by omega) (by omega) dX10_takes_9 (fun H locs hG => ?_)
  refine lv_aload_n hx hb dX10_takes_10 rfl (lv_at hl 0 rfl) ?_
  refine lv_dup hx hb dX10_takes_11 rfl ?_
  refine g_get (C := RX10) (T := TX10) (NN := 35) (ci := 10) hx hb hts hinX10 hown hE hG (k := 28) (by omega) rfl rfl 12 (by decide) (hts (.fieldLink RX10 164 "CommutatorModel" "taken" "I") (List.mem_of_getElem? (i := 2) rfl)) rfl (v := .int (A 28 12)) rfl dX10_takes_12 ?_
  refine g_top (y := zI (G 28 12)) (hM 28 12 (by omega) (by omega) (by omega)) ?_
  refine lv_iconst (v := nI 1) hx hb dX10_takes_15 (by decide) ?_
  refine lv_iadd hx hb dX10_takes_16 ?_
  refine g_top (y := zI ((G 28 12) + 1)) (zI_add_in _ _) ?_
  refine g_puti (C := RX10) (T := TX10) (NN := 35) (ci := 10) hx hb hts hinX10 tyX10 tyX10_ok nmX10 hown hE hG (k := 28) (by omega) rfl rfl 12 (by decide) (hts (.fieldLink RX10 164 "CommutatorModel" "taken" "I") (List.mem_of_getElem? (i := 2) rfl)) rfl rfl (ty := .int) (v := zI ((G 28 12) + 1)) (by decide +kernel) rfl rfl (Nat.le_of_ble_eq_true rfl) rfl dX10_takes_17 (fun H locs hG => ?_)
  refine lv_aload_n hx hb dX10_takes_20 rfl (lv_at hl 0 rfl) ?_
  refine g_get (C := RX10) (T := TX10) (NN := 35) (ci := 10) hx hb hts hinX10 hown hE hG (k := 28) (by omega) rfl rfl 14 (by decide) (hts (.fieldLink RX10 151 "CommutatorModel" "state" "I") (List.mem_of_getElem? (i := 3) rfl)) rfl (v := .int (A 28 14)) rfl dX10_takes_21 ?_
  refine g_top (y := zI (G 28 14)) (hM 28 14 (by omega) (by omega) (by omega)) ?_
  refine lv_if_ne (tgt := 83) hx hb dX10_takes_24 (by decide) (fun c24 => ?_) (fun c24 => ?_)
  · skip
    have c24 : ¬ ((zI (G 28 14)) = nI 0) := c24
    have c24 : ¬ ((G 28 14) = ((0 : Nat) : Int)) := fun z9 => c24 ((cmp_eq (zI_toInt (by omega) (by omega)) (nI_toInt (by omega))).mpr z9)
    refine lv_aload_n hx hb dX10_takes_83 rfl (lv_at hl 0 rfl) ?_
    refine g_get (C := RX10) (T := TX10) (NN := 35) (ci := 10) hx hb hts hinX10 hown hE hG (k := 28) (by omega) rfl rfl 12 (by decide) (hts (.fieldLink RX10 164 "CommutatorModel" "taken" "I") (List.mem_of_getElem? (i := 2) rfl)) rfl (v := .int (zI ((G 28 12) + 1))) rfl dX10_takes_84 ?_
    refine lv_aload_n hx hb dX10_takes_87 rfl (lv_at hl 0 rfl) ?_
    refine g_get (C := RX10) (T := TX10) (NN := 35) (ci := 10) hx hb hts hinX10 hown hE hG (k := 28) (by omega) rfl rfl 15 (by decide) (hts (.fieldLink RX10 75 "CommutatorModel" "begun" "I") (List.mem_of_getElem? (i := 5) rfl)) rfl (v := .int (A 28 15)) rfl dX10_takes_88 ?_
    refine g_top (y := zI (G 28 15)) (hM 28 15 (by omega) (by omega) (by omega)) ?_
    refine lv_isub hx hb dX10_takes_91 ?_
    refine g_top (y := zI (((G 28 12) + 1) - (G 28 15))) (zI_sub _ _) ?_
    refine lv_bipush (v := nI 72) hx hb dX10_takes_92 (by decide) ?_
    refine lv_icmp_ne (tgt := 114) hx hb dX10_takes_94 (by decide) (fun c94 => ?_) (fun c94 => ?_)
    · skip
      have c94 : ¬ ((((G 28 12) + 1) - (G 28 15)) = ((72 : Nat) : Int)) := fun z9 => c94 ((cmp_eq (zI_toInt (by omega) (by omega)) (nI_toInt (by omega))).mpr z9)
      refine lv_aload_n hx hb dX10_takes_114 rfl (lv_at hl 0 rfl) ?_
      refine g_get (C := RX10) (T := TX10) (NN := 35) (ci := 10) hx hb hts hinX10 hown hE hG (k := 28) (by omega) rfl rfl 12 (by decide) (hts (.fieldLink RX10 164 "CommutatorModel" "taken" "I") (List.mem_of_getElem? (i := 2) rfl)) rfl (v := .int (zI ((G 28 12) + 1))) rfl dX10_takes_115 ?_
      refine lv_aload_n hx hb dX10_takes_118 rfl (lv_at hl 0 rfl) ?_
      refine g_get (C := RX10) (T := TX10) (NN := 35) (ci := 10) hx hb hts hinX10 hown hE hG (k := 28) (by omega) rfl rfl 15 (by decide) (hts (.fieldLink RX10 75 "CommutatorModel" "begun" "I") (List.mem_of_getElem? (i := 5) rfl)) rfl (v := .int (A 28 15)) rfl dX10_takes_119 ?_
      refine g_top (y := zI (G 28 15)) (hM 28 15 (by omega) (by omega) (by omega)) ?_
      refine lv_isub hx hb dX10_takes_122 ?_
      refine g_top (y := zI (((G 28 12) + 1) - (G 28 15))) (zI_sub _ _) ?_
      refine lv_bipush (v := nI 64) hx hb dX10_takes_123 (by decide) ?_
      refine lv_icmp_ne (tgt := 142) hx hb dX10_takes_125 (by decide) (fun c125 => ?_) (fun c125 => ?_)
      · skip
        have c125 : ¬ ((((G 28 12) + 1) - (G 28 15)) = ((64 : Nat) : Int)) := fun z9 => c125 ((cmp_eq (zI_toInt (by omega) (by omega)) (nI_toInt (by omega))).mpr z9)
        refine lv_iconst (v := nI 0) hx hb dX10_takes_142 (by decide) ?_
        exact g_iret hx hb hr hlocks hG (by first | exact ⟨(by unfold mUsed; rw [if_neg (fun z9 => by have y1 := z9.1; have y2 := z9.2.1; have y3 := z9.2.2.1; omega)]; rfl), rfl, (by unfold mTake; rw [if_neg (by omega), if_neg (by omega), if_neg (fun z9 => by have y1 := z9.1; have y2 := z9.2; omega)]; exact hR1), (hOt), rfl⟩ | exact ⟨(by unfold mUsed; rw [if_neg (fun z9 => z9.2.2.2 hC_136)]; rfl), rfl, (by unfold mTake; rw [if_neg (by omega), if_neg (by omega), if_pos ⟨by omega, by omega⟩]; unfold mDecT; rw [if_pos hC_136]; exact hR1.up 28 23 _), (hOt.up _ _ (by decide) (by decide)), rfl⟩ | exact ⟨(by unfold mUsed; rw [if_pos ⟨by omega, by omega, by omega, hC_136⟩]; rfl), rfl, (by unfold mTake; rw [if_neg (by omega), if_neg (by omega), if_pos ⟨by omega, by omega⟩]; unfold mDecT; rw [if_neg hC_136]; exact hR_136), (hOt.trans hO_136), hth_136⟩) dX10_takes_143
      · skip
        have c125 : (((G 28 12) + 1) - (G 28 15)) = ((64 : Nat) : Int) := (cmp_eq (zI_toInt (by omega) (by omega)) (nI_toInt (by omega))).mp c125
        have hT1 := mT1_ok hok ht8 hbq (Or.inr (by omega))
        refine lv_aload_n hx hb dX10_takes_128 rfl (lv_at hl 0 rfl) ?_
        refine g_get (C := RX10) (T := TX10) (NN := 35) (ci := 10) hx hb hts hinX10 hown hE hG (k := 28) (by omega) rfl rfl 18 (by decide) (hts (.fieldLink RX10 160 "CommutatorModel" "isDecoded" "Z") (List.mem_of_getElem? (i := 6) rfl)) rfl (v := .int (A 28 18)) rfl dX10_takes_129 ?_
        refine g_top (y := zI (G 28 18)) (hM 28 18 (by omega) (by omega) (by omega)) ?_
        refine lv_if_eq (tgt := 142) hx hb dX10_takes_132 (by decide) (fun c132 => ?_) (fun c132 => ?_)
        · skip
          have c132 : (zI (G 28 18)) = nI 0 := c132
          have c132 : (G 28 18) = ((0 : Nat) : Int) := (cmp_eq (zI_toInt (by omega) (by omega)) (nI_toInt (by omega))).mp c132
          refine lv_iconst (v := nI 0) hx hb dX10_takes_142 (by decide) ?_
          exact g_iret hx hb hr hlocks hG (by first | exact ⟨(by unfold mUsed; rw [if_neg (fun z9 => by have y1 := z9.1; have y2 := z9.2.1; have y3 := z9.2.2.1; omega)]; rfl), rfl, (by unfold mTake; rw [if_neg (by omega), if_neg (by omega), if_neg (fun z9 => by have y1 := z9.1; have y2 := z9.2; omega)]; exact hR1), (hOt), rfl⟩ | exact ⟨(by unfold mUsed; rw [if_neg (fun z9 => z9.2.2.2 hC_136)]; rfl), rfl, (by unfold mTake; rw [if_neg (by omega), if_neg (by omega), if_pos ⟨by omega, by omega⟩]; unfold mDecT; rw [if_pos hC_136]; exact hR1.up 28 23 _), (hOt.up _ _ (by decide) (by decide)), rfl⟩ | exact ⟨(by unfold mUsed; rw [if_pos ⟨by omega, by omega, by omega, hC_136⟩]; rfl), rfl, (by unfold mTake; rw [if_neg (by omega), if_neg (by omega), if_pos ⟨by omega, by omega⟩]; unfold mDecT; rw [if_neg hC_136]; exact hR_136), (hOt.trans hO_136), hth_136⟩) dX10_takes_143
        · skip
          have c132 : ¬ ((zI (G 28 18)) = nI 0) := c132
          have c132 : ¬ ((G 28 18) = ((0 : Nat) : Int)) := fun z9 => c132 ((cmp_eq (zI_toInt (by omega) (by omega)) (nI_toInt (by omega))).mpr z9)
          refine lv_aload_n hx hb dX10_takes_135 rfl (lv_at hl 0 rfl) ?_
          refine g_callV (As := []) (rest := []) (r := (RX10, TX10, 35)) ⟨hx, hb, hml, hown, hts⟩ hE hG (cX10_decodesC l D cy base ad n (gu (gu A 38 ((G 28 12).toNat) (zI bq)) 28 12 (zI ((G 28 12) + 1))) J (mT1 G bq) hR1 (hT1.1.1) hp1 (show 0 ≤ G 28 15 ∧ G 28 15 + 64 ≤ 8000 by omega) hT1.1.2.2.2.2.1.2.2.2.1 (show 0 ≤ G 28 20 ∧ G 28 20 ≤ 9000000 by omega) (show 0 ≤ G 28 21 ∧ G 28 21 ≤ 900000 by omega) (show 0 ≤ G 28 22 ∧ G 28 22 ≤ 9000000 by omega) (show 0 ≤ G 28 23 ∧ G 28 23 ≤ 900000 by omega) (fun i9 => by have h9 := hsa i9; exact (show 0 ≤ G 41 i9 ∧ G 41 i9 ≤ 900000 by omega)) (fun i9 => by have h9 := hsa i9; exact (show 0 ≤ G 42 i9 ∧ G 42 i9 ≤ 9000000 by omega))) (cwV 0 hts gX10_takes_X10_decodes rfl rfl rfl (by decide +kernel) ⟨Nat.le_of_ble_eq_true rfl, Nat.le_of_ble_eq_true rfl⟩) (by omega) rfl rfl rfl hl.1 rfl (Nat.le_of_ble_eq_true rfl) dX10_takes_136 ⟨Nat.zero_le _, Nat.zero_le _⟩ (fun v_ A136 J136 H locs hp hG => ?_)
          rcases hp with ⟨rfl, rfl, rfl, hC_136⟩ | ⟨rfl, rfl, hC_136, hR_136, hO_136, hth_136⟩
          · refine W.eq (g2 := F0 mM 139 ls [.int (nI 0)]) rfl ?_
            refine lv_goto (tgt := 143) hx hb dX10_takes_139 (by decide) ?_
            exact g_iret hx hb hr hlocks hG (by first | exact ⟨(by unfold mUsed; rw [if_neg (fun z9 => by have y1 := z9.1; have y2 := z9.2.1; have y3 := z9.2.2.1; omega)]; rfl), rfl, (by unfold mTake; rw [if_neg (by omega), if_neg (by omega), if_neg (fun z9 => by have y1 := z9.1; have y2 := z9.2; omega)]; exact hR1), (hOt), rfl⟩ | exact ⟨(by unfold mUsed; rw [if_neg (fun z9 => z9.2.2.2 hC_136)]; rfl), rfl, (by unfold mTake; rw [if_neg (by omega), if_neg (by omega), if_pos ⟨by omega, by omega⟩]; unfold mDecT; rw [if_pos hC_136]; exact hR1.up 28 23 _), (hOt.up _ _ (by decide) (by decide)), rfl⟩ | exact ⟨(by unfold mUsed; rw [if_pos ⟨by omega, by omega, by omega, hC_136⟩]; rfl), rfl, (by unfold mTake; rw [if_neg (by omega), if_neg (by omega), if_pos ⟨by omega, by omega⟩]; unfold mDecT; rw [if_neg hC_136]; exact hR_136), (hOt.trans hO_136), hth_136⟩) dX10_takes_143
          · refine W.eq (g2 := F0 mM 139 ls [.int (nI 1)]) rfl ?_
            refine lv_goto (tgt := 143) hx hb dX10_takes_139 (by decide) ?_
            exact g_iret hx hb hr hlocks hG (by first | exact ⟨(by unfold mUsed; rw [if_neg (fun z9 => by have y1 := z9.1; have y2 := z9.2.1; have y3 := z9.2.2.1; omega)]; rfl), rfl, (by unfold mTake; rw [if_neg (by omega), if_neg (by omega), if_neg (fun z9 => by have y1 := z9.1; have y2 := z9.2; omega)]; exact hR1), (hOt), rfl⟩ | exact ⟨(by unfold mUsed; rw [if_neg (fun z9 => z9.2.2.2 hC_136)]; rfl), rfl, (by unfold mTake; rw [if_neg (by omega), if_neg (by omega), if_pos ⟨by omega, by omega⟩]; unfold mDecT; rw [if_pos hC_136]; exact hR1.up 28 23 _), (hOt.up _ _ (by decide) (by decide)), rfl⟩ | exact ⟨(by unfold mUsed; rw [if_pos ⟨by omega, by omega, by omega, hC_136⟩]; rfl), rfl, (by unfold mTake; rw [if_neg (by omega), if_neg (by omega), if_pos ⟨by omega, by omega⟩]; unfold mDecT; rw [if_neg hC_136]; exact hR_136), (hOt.trans hO_136), hth_136⟩) dX10_takes_143
    · skip
      have c94 : (((G 28 12) + 1) - (G 28 15)) = ((72 : Nat) : Int) := (cmp_eq (zI_toInt (by omega) (by omega)) (nI_toInt (by omega))).mp c94
      refine lv_aload_n hx hb dX10_takes_97 rfl (lv_at hl 0 rfl) ?_
      refine lv_dup hx hb dX10_takes_98 rfl ?_
      refine g_get (C := RX10) (T := TX10) (NN := 35) (ci := 10) hx hb hts hinX10 hown hE hG (k := 28) (by omega) rfl rfl 15 (by decide) (hts (.fieldLink RX10 75 "CommutatorModel" "begun" "I") (List.mem_of_getElem? (i := 5) rfl)) rfl (v := .int (A 28 15)) rfl dX10_takes_99 ?_
      refine g_top (y := zI (G 28 15)) (hM 28 15 (by omega) (by omega) (by omega)) ?_
      refine lv_bipush (v := nI 64) hx hb dX10_takes_102 (by decide) ?_
      refine lv_iadd hx hb dX10_takes_104 ?_
      refine g_top (y := zI ((G 28 15) + 64)) (zI_add_in _ _) ?_
      refine g_puti (C := RX10) (T := TX10) (NN := 35) (ci := 10) hx hb hts hinX10 tyX10 tyX10_ok nmX10 hown hE hG (k := 28) (by omega) rfl rfl 15 (by decide) (hts (.fieldLink RX10 75 "CommutatorModel" "begun" "I") (List.mem_of_getElem? (i := 5) rfl)) rfl rfl (ty := .int) (v := zI ((G 28 15) + 64)) (by decide +kernel) rfl rfl (Nat.le_of_ble_eq_true rfl) rfl dX10_takes_105 (fun H locs hG => ?_)
      refine lv_aload_n hx hb dX10_takes_108 rfl (lv_at hl 0 rfl) ?_
      refine g_callV (As := []) (rest := []) (r := (RX10, TX10, 35)) ⟨hx, hb, hml, hown, hts⟩ hE hG (cX10_comparesC l D cy base ad n (gu (gu (gu A 38 ((G 28 12).toNat) (zI bq)) 28 12 (zI ((G 28 12) + 1))) 28 15 (zI ((G 28 15) + 64))) J (gu (mT1 G bq) 28 15 (G 28 15 + 64)) (hR1.up 28 15 _) hp1 (show 0 ≤ G 28 15 + 64 ∧ G 28 15 + 64 + 8 ≤ 8000 by omega) (show G 28 14 = 1 ∨ G 28 14 = 2 by omega) (show 0 ≤ G 28 16 ∧ G 28 16 < 10000 by omega) (show 0 ≤ G 28 17 ∧ G 28 17 < 10000 by omega)) (cwV 0 hts gX10_takes_X10_compares rfl rfl rfl (by decide +kernel) ⟨Nat.le_of_ble_eq_true rfl, Nat.le_of_ble_eq_true rfl⟩) (by omega) rfl rfl rfl hl.1 rfl (Nat.le_of_ble_eq_true rfl) dX10_takes_109 ⟨Nat.zero_le _, Nat.zero_le _⟩ (fun v_ A109 J109 H locs hp hG => ?_)
      obtain ⟨rfl, rfl, hR_109, hO_109, hth_109⟩ := hp
      refine W.eq (g2 := F0 mM 112 ls []) rfl ?_
      refine lv_iconst (v := nI 0) hx hb dX10_takes_112 (by decide) ?_
      exact g_iret hx hb hr hlocks hG ⟨(by unfold mUsed; rw [if_neg (fun z9 => by have y1 := z9.1; have y2 := z9.2.1; have y3 := z9.2.2.1; omega)]; rfl), rfl, (by unfold mTake; rw [if_neg (by omega), if_pos (by omega)]; exact hR_109), ((hOt.up _ _ (by decide) (by decide)).trans hO_109), hth_109⟩ dX10_takes_113
  · skip
    have c24 : (zI (G 28 14)) = nI 0 := c24
    have c24 : (G 28 14) = ((0 : Nat) : Int) := (cmp_eq (zI_toInt (by omega) (by omega)) (nI_toInt (by omega))).mp c24
    refine lv_aload_n hx hb dX10_takes_27 rfl (lv_at hl 0 rfl) ?_
    refine g_get (C := RX10) (T := TX10) (NN := 35) (ci := 10) hx hb hts hinX10 hown hE hG (k := 28) (by omega) rfl rfl 12 (by decide) (hts (.fieldLink RX10 164 "CommutatorModel" "taken" "I") (List.mem_of_getElem? (i := 2) rfl)) rfl (v := .int (zI ((G 28 12) + 1))) rfl dX10_takes_28 ?_
    refine lv_bipush (v := nI 8) hx hb dX10_takes_31 (by decide) ?_
    refine lv_icmp_lt (tgt := 81) hx hb dX10_takes_33 (by decide) (fun c33 => ?_) (fun c33 => ?_)
    · skip
      have c33 : ((G 28 12) + 1) < ((8 : Nat) : Int) := (cmp_lt (zI_toInt (by omega) (by omega)) (nI_toInt (by omega))).mp c33
      refine lv_iconst (v := nI 0) hx hb dX10_takes_81 (by decide) ?_
      exact g_iret hx hb hr hlocks hG ⟨(by unfold mUsed; rw [if_neg (fun z9 => by have y1 := z9.1; have y2 := z9.2.1; have y3 := z9.2.2.1; omega)]; rfl), rfl, (by unfold mTake; rw [if_pos (by omega)]; first | (rw [if_pos ⟨by omega, by omega⟩]; exact (((hR1.up 28 14 1).up 28 16 1).up 28 15 (G 28 12 + 1 - 8)).up 28 18 0) | (rw [if_neg (fun z9 => by have y1 := z9.1; have y2 := z9.2; omega)]; exact hR1)), (by first | exact hOt | exact ((((hOt.up _ _ (by decide) (by decide)).up _ _ (by decide) (by decide)).up _ _ (by decide) (by decide)).up _ _ (by decide) (by decide))), rfl⟩ dX10_takes_82
    · skip
      have c33 : ¬ (((G 28 12) + 1) < ((8 : Nat) : Int)) := fun z9 => c33 ((cmp_lt (zI_toInt (by omega) (by omega)) (nI_toInt (by omega))).mpr z9)
      refine lv_aload_n hx hb dX10_takes_36 rfl (lv_at hl 0 rfl) ?_
      refine lv_aload_n hx hb dX10_takes_37 rfl (lv_at hl 0 rfl) ?_
      refine g_get (C := RX10) (T := TX10) (NN := 35) (ci := 10) hx hb hts hinX10 hown hE hG (k := 28) (by omega) rfl rfl 12 (by decide) (hts (.fieldLink RX10 164 "CommutatorModel" "taken" "I") (List.mem_of_getElem? (i := 2) rfl)) rfl (v := .int (zI ((G 28 12) + 1))) rfl dX10_takes_38 ?_
      refine lv_bipush (v := nI 8) hx hb dX10_takes_41 (by decide) ?_
      refine lv_isub hx hb dX10_takes_43 ?_
      refine g_top (y := zI (((G 28 12) + 1) - 8)) (zI_sub_in _ _) ?_
      refine lv_bipush (v := nI 8) hx hb dX10_takes_44 (by decide) ?_
      refine g_callV (As := [.int (zI (((G 28 12) + 1) - 8)), .int (nI 8)]) (rest := []) (r := (RX10, TX10, 35)) ⟨hx, hb, hml, hown, hts⟩ hE hG (cX10_bitsC l D cy base ad n (gu (gu A 38 ((G 28 12).toNat) (zI bq)) 28 12 (zI ((G 28 12) + 1))) J (mT1 G bq) (((G 28 12) + 1) - 8) 8 hR1.pa.1 hp1 (by first | assumption | omega) (by first | assumption | omega) (by first | assumption | omega)) (cwV 2 hts gX10_takes_X10_bits rfl rfl rfl (by decide +kernel) ⟨Nat.le_of_ble_eq_true rfl, Nat.le_of_ble_eq_true rfl⟩) (by omega) rfl rfl rfl hl.1 rfl (Nat.le_of_ble_eq_true rfl) dX10_takes_46 ⟨Nat.zero_le _, Nat.zero_le _⟩ (fun v_ A46 J46 H locs hp hG => ?_)
      obtain ⟨rfl, rfl, rfl⟩ := hp
      refine W.eq (g2 := F0 mM 49 ls [.int (zI (mBits (mT1 G bq) (((G 28 12) + 1) - 8) 8))]) rfl ?_
      refine lv_sipush (v := nI 184) hx hb dX10_takes_49 (by decide) ?_
      refine lv_icmp_ne (tgt := 81) hx hb dX10_takes_52 (by decide) (fun c52 => ?_) (fun c52 => ?_)
      · skip
        have c52 : ¬ ((mBits (mT1 G bq) (((G 28 12) + 1) - 8) 8) = ((184 : Nat) : Int)) := fun z9 => c52 ((cmp_eq (zI_toInt (by omega) (by omega)) (nI_toInt (by omega))).mpr z9)
        refine lv_iconst (v := nI 0) hx hb dX10_takes_81 (by decide) ?_
        exact g_iret hx hb hr hlocks hG ⟨(by unfold mUsed; rw [if_neg (fun z9 => by have y1 := z9.1; have y2 := z9.2.1; have y3 := z9.2.2.1; omega)]; rfl), rfl, (by unfold mTake; rw [if_pos (by omega)]; first | (rw [if_pos ⟨by omega, by omega⟩]; exact (((hR1.up 28 14 1).up 28 16 1).up 28 15 (G 28 12 + 1 - 8)).up 28 18 0) | (rw [if_neg (fun z9 => by have y1 := z9.1; have y2 := z9.2; omega)]; exact hR1)), (by first | exact hOt | exact ((((hOt.up _ _ (by decide) (by decide)).up _ _ (by decide) (by decide)).up _ _ (by decide) (by decide)).up _ _ (by decide) (by decide))), rfl⟩ dX10_takes_82
      · skip
        have c52 : (mBits (mT1 G bq) (((G 28 12) + 1) - 8) 8) = ((184 : Nat) : Int) := (cmp_eq (zI_toInt (by omega) (by omega)) (nI_toInt (by omega))).mp c52
        refine lv_aload_n hx hb dX10_takes_55 rfl (lv_at hl 0 rfl) ?_
        refine lv_iconst (v := nI 1) hx hb dX10_takes_56 (by decide) ?_
        refine g_puti (C := RX10) (T := TX10) (NN := 35) (ci := 10) hx hb hts hinX10 tyX10 tyX10_ok nmX10 hown hE hG (k := 28) (by omega) rfl rfl 14 (by decide) (hts (.fieldLink RX10 151 "CommutatorModel" "state" "I") (List.mem_of_getElem? (i := 3) rfl)) rfl rfl (ty := .int) (v := nI 1) (by decide +kernel) rfl rfl (Nat.le_of_ble_eq_true rfl) rfl dX10_takes_57 (fun H locs hG => ?_)
        refine lv_aload_n hx hb dX10_takes_60 rfl (lv_at hl 0 rfl) ?_
        refine lv_iconst (v := nI 1) hx hb dX10_takes_61 (by decide) ?_
        refine g_puti (C := RX10) (T := TX10) (NN := 35) (ci := 10) hx hb hts hinX10 tyX10 tyX10_ok nmX10 hown hE hG (k := 28) (by omega) rfl rfl 16 (by decide) (hts (.fieldLink RX10 154 "CommutatorModel" "matches" "I") (List.mem_of_getElem? (i := 4) rfl)) rfl rfl (ty := .int) (v := nI 1) (by decide +kernel) rfl rfl (Nat.le_of_ble_eq_true rfl) rfl dX10_takes_62 (fun H locs hG => ?_)
        refine lv_aload_n hx hb dX10_takes_65 rfl (lv_at hl 0 rfl) ?_
        refine lv_aload_n hx hb dX10_takes_66 rfl (lv_at hl 0 rfl) ?_
        refine g_get (C := RX10) (T := TX10) (NN := 35) (ci := 10) hx hb hts hinX10 hown hE hG (k := 28) (by omega) rfl rfl 12 (by decide) (hts (.fieldLink RX10 164 "CommutatorModel" "taken" "I") (List.mem_of_getElem? (i := 2) rfl)) rfl (v := .int (zI ((G 28 12) + 1))) rfl dX10_takes_67 ?_
        refine lv_bipush (v := nI 8) hx hb dX10_takes_70 (by decide) ?_
        refine lv_isub hx hb dX10_takes_72 ?_
        refine g_top (y := zI (((G 28 12) + 1) - 8)) (zI_sub_in _ _) ?_
        refine g_puti (C := RX10) (T := TX10) (NN := 35) (ci := 10) hx hb hts hinX10 tyX10 tyX10_ok nmX10 hown hE hG (k := 28) (by omega) rfl rfl 15 (by decide) (hts (.fieldLink RX10 75 "CommutatorModel" "begun" "I") (List.mem_of_getElem? (i := 5) rfl)) rfl rfl (ty := .int) (v := zI (((G 28 12) + 1) - 8)) (by decide +kernel) rfl rfl (Nat.le_of_ble_eq_true rfl) rfl dX10_takes_73 (fun H locs hG => ?_)
        refine lv_aload_n hx hb dX10_takes_76 rfl (lv_at hl 0 rfl) ?_
        refine lv_iconst (v := nI 0) hx hb dX10_takes_77 (by decide) ?_
        refine g_puti (C := RX10) (T := TX10) (NN := 35) (ci := 10) hx hb hts hinX10 tyX10 tyX10_ok nmX10 hown hE hG (k := 28) (by omega) rfl rfl 18 (by decide) (hts (.fieldLink RX10 160 "CommutatorModel" "isDecoded" "Z") (List.mem_of_getElem? (i := 6) rfl)) rfl rfl (ty := .boolean) (v := nI 0) (by decide +kernel) rfl rfl (Nat.le_of_ble_eq_true rfl) rfl dX10_takes_78 (fun H locs hG => ?_)
        refine lv_iconst (v := nI 0) hx hb dX10_takes_81 (by decide) ?_
        exact g_iret hx hb hr hlocks hG ⟨(by unfold mUsed; rw [if_neg (fun z9 => by have y1 := z9.1; have y2 := z9.2.1; have y3 := z9.2.2.1; omega)]; rfl), rfl, (by unfold mTake; rw [if_pos (by omega)]; first | (rw [if_pos ⟨by omega, by omega⟩]; exact (((hR1.up 28 14 1).up 28 16 1).up 28 15 (G 28 12 + 1 - 8)).up 28 18 0) | (rw [if_neg (fun z9 => by have y1 := z9.1; have y2 := z9.2; omega)]; exact hR1)), (by first | exact hOt | exact ((((hOt.up _ _ (by decide) (by decide)).up _ _ (by decide) (by decide)).up _ _ (by decide) (by decide)).up _ _ (by decide) (by decide))), rfl⟩ dX10_takes_82

abbrev PX10_receive (ad : Nat → Nat) (A : Nat → Nat → Int32) (J : Nat → Nat → Int64) (G : Nat → Nat → Int) (x : Int32) : Option Value → (Nat → Nat → Int32) → (Nat → Nat → Int64) → Prop := fun v_ A1 J1 => (v_ = some (.int (nI 0)) ∧ gu A 28 34 (nI 1) = A1 ∧ J = J1 ∧ (¬ (1 ≤ x.toInt ∧ x.toInt ≤ 4096))) ∨ (∃ (jq mq : Nat), v_ = some (.int (zI (mRcvU G mq))) ∧ J = J1 ∧ (x = nI jq) ∧ (1 ≤ jq ∧ jq ≤ 4096) ∧ ((((mq : Nat) : Int) = G 28 10 ∧ G 28 10 ≤ ((jq : Nat) : Int)) ∨ (mq = jq ∧ ((jq : Nat) : Int) < G 28 10)) ∧ (MRep A1 (mDrop (mRcv G mq) 0 mq (G 28 10 - (mq : Int)).toNat)) ∧ (MOnly A A1) ∧ (A1 28 34 = nI 0))
set_option maxHeartbeats 4000000 in
set_option maxRecDepth 100000 in
theorem cX10_receiveC (l : Launch) (D : va_G) (cy : Nat → ClassId) (base : Nat) (ad : Nat → Nat) (n : Nat) (A : Nat → Nat → Int32) (J : Nat → Nat → Int64) (G : Nat → Nat → Int) (x : Int32) (hM : MRep A G) (hok : mRcvOk G) (hol : 0 ≤ G 28 10 ∧ G 28 10 ≤ 8000) (htl : G 28 12 + G 28 10 ≤ 8000) (hln : ∀ j, G 37 j = 0 ∨ G 37 j = 1) : gMet l yX10_receive wsX10_receive ({ frames := 4, cells := 0, slots := 0, locals := 92 } : Room) D cy base ad n A J [.ref (ad 28), .int x] (PX10_receive ad A J G x) := by
  refine g_ofW (cc := cX10_receive) (maxL := 5) (ret := (some .int)) (by decide) rfl (Nat.le_of_ble_eq_true rfl) ?_
  intro pM eM sM mM aM bM methM cM H locs ls hx hb hr hts hown hlocks hml hE hG hl
  have hl : lv_has ls 5 [(0, .ref (ad 28)), (1, .int x)] := hl
  have hinX10 : ∀ w ∈ u_ws RX10 TX10 35, w ∈ wsX10_receive := by decide +kernel
  refine lv_aload_n hx hb dX10_receive_0 rfl (lv_at hl 0 rfl) ?_
  refine lv_iload_n hx hb dX10_receive_1 rfl (lv_at hl 1 rfl) ?_
  refine lv_iconst (v := nI 1) hx hb dX10_receive_2 (by decide) ?_
  refine lv_sipush (v := nI 4096) hx hb dX10_receive_3 (by decide) ?_
  refine g_callS (As := [.int x, .int (nI 1), .int (nI 4096)]) (rest := [.ref (ad 28)]) ⟨hx, hb, hml, hown, hts⟩ hE hG (cX10_isInC l D cy base ad n A J x 1 4096 (by first | assumption | omega) (by first | assumption | omega) (by first | assumption | omega) (by first | assumption | omega)) (va_cwS 3 hts gX10_receive_X10_isIn rfl rfl rfl (by decide +kernel) ⟨Nat.le_of_ble_eq_true rfl, Nat.le_of_ble_eq_true rfl⟩) rfl hl.1 rfl (Nat.le_of_ble_eq_true rfl) dX10_receive_6 ⟨Nat.zero_le _, Nat.zero_le _⟩ (fun v_ A6 J6 H locs hp hG => ?_)
  rcases hp with ⟨rfl, rfl, rfl, hC_6⟩ | ⟨rfl, rfl, rfl, hC_6⟩
  · refine W.eq (g2 := F0 mM 9 ls [.int (nI 1), .ref (ad 28)]) rfl ?_
    refine lv_if_eq (tgt := 16) hx hb dX10_receive_9 (by decide) (fun c9 => ?_) (fun c9 => ?_)
    · skip
      exact absurd c9 (by decide)
    · skip
      refine lv_iconst (v := nI 0) hx hb dX10_receive_12 (by decide) ?_
      refine lv_goto (tgt := 17) hx hb dX10_receive_13 (by decide) ?_
      refine g_callV (As := [.int (nI 0)]) (rest := []) (r := (RX10, TX10, 35)) ⟨hx, hb, hml, hown, hts⟩ hE hG (cX10_canC l D cy base ad n A J 0 (by first | assumption | omega)) (cwV 1 hts gX10_receive_X10_can rfl rfl rfl (by decide +kernel) ⟨Nat.le_of_ble_eq_true rfl, Nat.le_of_ble_eq_true rfl⟩) (by omega) rfl rfl rfl hl.1 rfl (Nat.le_of_ble_eq_true rfl) dX10_receive_17 ⟨Nat.zero_le _, Nat.zero_le _⟩ (fun v_ A17 J17 H locs hp hG => ?_)
      rcases hp with ⟨rfl, rfl, rfl, hC_17⟩ | ⟨rfl, rfl, rfl, hC_17⟩
      · refine W.eq (g2 := F0 mM 20 ls [.int (nI 1)]) rfl ?_
        refine lv_if_ne (tgt := 25) hx hb dX10_receive_20 (by decide) (fun c20 => ?_) (fun c20 => ?_)
        · skip
          obtain ⟨jq, hjq, rfl⟩ := z_nat (x := x) (by omega)
          have hjqt : (nI jq).toInt = (jq : Int) := nI_toInt hjq
          have LLq41 : ∀  (mi : Int) (hmi : (mi = G 28 10 ∧ G 28 10 ≤ ((jq : Nat) : Int)) ∨ (mi = ((jq : Nat) : Int) ∧ ((jq : Nat) : Int) < G 28 10)) (H : Heap) (locs : List Loc) (ls : Array Slot), gH D base sM ad (50 + 2 * n) (gw cy ad n (gu A 28 34 (nI 0)) J) H locs → lv_has ls 5 [(0, .ref (ad 28)), (1, .int (nI jq))] → W pM l eM ({ frames := 4, cells := 0, slots := 0, locals := 92 } : Room) sM mM aM bM methM cM H locs 0 0 (MQ bM (gPost D cy base ad n (PX10_receive ad A J G (nI jq))) aM sM 0 0 (fun q => base ≤ q)) (F0 mM 41 ls [.int (zI mi)]) := by
            intro mi hmi H locs ls hG hl
            obtain ⟨mq, hmq8⟩ : ∃ mq : Nat, mi = (mq : Int) := ⟨mi.toNat, by omega⟩
            subst hmq8
            refine lv_istore_n (lv' := [(2, .int (nI mq)), (0, .ref (ad 28)), (1, .int (nI jq))]) hx hb dX10_receive_41 rfl hl (by decide) rfl (fun ls hl => ?_)
            refine lv_iconst (v := nI 0) hx hb dX10_receive_42 (by decide) ?_
            refine lv_istore_n (lv' := [(3, .int (nI 0)), (2, .int (nI mq)), (0, .ref (ad 28)), (1, .int (nI jq))]) hx hb dX10_receive_43 rfl hl (by decide) rfl (fun ls hl => ?_)
            refine lv_iconst (v := nI 0) hx hb dX10_receive_44 (by decide) ?_
            refine lv_istore (lv' := [(4, .int (nI 0)), (3, .int (nI 0)), (2, .int (nI mq)), (0, .ref (ad 28)), (1, .int (nI jq))]) hx hb dX10_receive_45 hl (by decide) rfl (fun ls hl => ?_)
            have LLq47 : ∀ (fuel : Nat) (kq : Nat) (Aq : Nat → Nat → Int32) (hk : kq ≤ mq) (hR : MRep Aq (mRcv G kq)) (hO : MOnly A Aq) (hth : Aq 28 34 = nI 0) (_ : (mq - kq) < fuel) (H : Heap) (locs : List Loc) (ls : Array Slot), gH D base sM ad (50 + 2 * n) (gw cy ad n Aq J) H locs → lv_has ls 5 [(0, .ref (ad 28)), (1, .int (nI jq)), (2, .int (nI mq)), (3, .int (zI (mRcvU G kq))), (4, .int (nI kq))] → W pM l eM ({ frames := 4, cells := 0, slots := 0, locals := 92 } : Room) sM mM aM bM methM cM H locs 0 0 (MQ bM (gPost D cy base ad n (PX10_receive ad A J G (nI jq))) aM sM 0 0 (fun q => base ≤ q)) (F0 mM 47 ls []) := by
              intro fuel
              induction fuel with
              | zero => intro kq Aq hk hR hO hth hms H locs ls hG hl; exact absurd hms (Nat.not_lt_zero _)
              | succ fuel ihq47 =>
                intro kq Aq hk hR hO hth hms H locs ls hG hl
                refine lv_iload hx hb dX10_receive_47 (lv_at hl 4 rfl) ?_
                refine lv_iload_n hx hb dX10_receive_49 rfl (lv_at hl 2 rfl) ?_
                refine lv_icmp_ge (tgt := 73) hx hb dX10_receive_50 (by decide) (fun c50 => ?_) (fun c50 => ?_)
                · skip
                  have c50 : mq ≤ kq := (nI_leI (by omega) (by omega)).mp c50
                  have hk9 : mq = kq := by omega
                  subst hk9
                  refine lv_aload_n hx hb dX10_receive_73 rfl (lv_at hl 0 rfl) ?_
                  refine lv_iconst (v := nI 0) hx hb dX10_receive_74 (by decide) ?_
                  refine lv_iload_n hx hb dX10_receive_75 rfl (lv_at hl 2 rfl) ?_
                  refine g_callV (As := [.int (nI 0), .int (nI mq)]) (rest := []) (r := (RX10, TX10, 35)) ⟨hx, hb, hml, hown, hts⟩ hE hG (cX10_dropC l D cy base ad n Aq J (mRcv G mq) 0 mq hR (by rw [mRcv_sc G mq (by omega)]; omega) (by rw [mRcv_sc G mq (by omega)]; omega)) (cwV 2 hts gX10_receive_X10_drop rfl rfl rfl (by decide +kernel) ⟨Nat.le_of_ble_eq_true rfl, Nat.le_of_ble_eq_true rfl⟩) (by omega) rfl rfl rfl hl.1 rfl (Nat.le_of_ble_eq_true rfl) dX10_receive_76 ⟨Nat.zero_le _, Nat.zero_le _⟩ (fun v_ A76 J76 H locs hp hG => ?_)
                  obtain ⟨rfl, rfl, hR_76, hO_76, hth_76⟩ := hp
                  refine W.eq (g2 := F0 mM 79 ls []) rfl ?_
                  rw [mRcv_sc G mq (by omega)] at hR_76
                  refine lv_iload_n hx hb dX10_receive_79 rfl (lv_at hl 3 rfl) ?_
                  exact g_iret hx hb hr hlocks hG (Or.inr ⟨jq, mq, rfl, rfl, rfl, by omega, by omega, hR_76, (hO.trans hO_76), (hth_76.trans hth)⟩) dX10_receive_80
                · skip
                  have c50 : ¬ (mq ≤ kq) := fun z9 => c50 ((nI_leI (by omega) (by omega)).mpr z9)
                  have hrk := mRcv_ok hok hln kq (by omega)
                  have hru := mRcvU_r G kq
                  refine lv_iload_n hx hb dX10_receive_53 rfl (lv_at hl 3 rfl) ?_
                  refine lv_aload_n hx hb dX10_receive_54 rfl (lv_at hl 0 rfl) ?_
                  refine lv_aload_n hx hb dX10_receive_55 rfl (lv_at hl 0 rfl) ?_
                  refine g_get (C := RX10) (T := TX10) (NN := 35) (ci := 10) hx hb hts hinX10 hown hE hG (k := 28) (by omega) rfl rfl 11 (by decide) (hts (.fieldLink RX10 34 "CommutatorModel" "line" "[I") (List.mem_of_getElem? (i := 2) rfl)) rfl (v := .ref (ad 37)) rfl dX10_receive_56 ?_
                  refine lv_iload hx hb dX10_receive_59 (lv_at hl 4 rfl) ?_
                  refine g_iald hx hb hE hG (k := 37) (by omega) rfl kq (rfl) (by omega) (by omega) dX10_receive_61 ?_
                  refine g_top (y := zI (G 37 kq)) ((hR 37 _ (by omega) (by omega) (by omega)).trans (congrArg zI (mRcv_k G _ _ (by omega) (by omega)))) ?_
                  refine g_callV (As := [.int (zI (G 37 kq))]) (rest := [.int (zI (mRcvU G kq))]) (r := (RX10, TX10, 35)) ⟨hx, hb, hml, hown, hts⟩ hE hG (cX10_takesC l D cy base ad n Aq J (mRcv G kq) (G 37 kq) hR hrk.1 (by rw [hrk.2]; omega) (hln kq)) (cwV 1 hts gX10_receive_X10_takes rfl rfl rfl (by decide +kernel) ⟨Nat.le_of_ble_eq_true rfl, Nat.le_of_ble_eq_true rfl⟩) (by omega) rfl rfl rfl hl.1 rfl (Nat.le_of_ble_eq_true rfl) dX10_receive_62 ⟨Nat.zero_le _, Nat.zero_le _⟩ (fun v_ A62 J62 H locs hp hG => ?_)
                  obtain ⟨rfl, rfl, hR_62, hO_62, hth_62⟩ := hp
                  refine W.eq (g2 := F0 mM 65 ls [.int (zI (mUsed (mRcv G kq) (G 37 kq))), .int (zI (mRcvU G kq))]) rfl ?_
                  have hu01 := mUsed_01 (mRcv G kq) (G 37 kq)
                  refine lv_iadd hx hb dX10_receive_65 ?_
                  refine g_top (y := zI ((mRcvU G kq) + (mUsed (mRcv G kq) (G 37 kq)))) (zI_add _ _) ?_
                  refine lv_istore_n (lv' := [(3, .int (zI ((mRcvU G kq) + (mUsed (mRcv G kq) (G 37 kq))))), (0, .ref (ad 28)), (1, .int (nI jq)), (2, .int (nI mq)), (4, .int (nI kq))]) hx hb dX10_receive_66 rfl hl (by decide) rfl (fun ls hl => ?_)
                  refine lv_iinc (v := nI (kq + 1)) (lv' := [(4, .int (nI (kq + 1))), (3, .int (zI ((mRcvU G kq) + (mUsed (mRcv G kq) (G 37 kq))))), (0, .ref (ad 28)), (1, .int (nI jq)), (2, .int (nI mq))]) hx hb dX10_receive_67 hl (k := 4) rfl (by rw [show (Int32.ofInt 1 : Int32) = nI 1 from rfl, nI_add]) (by decide) rfl (fun ls hl => ?_)
                  refine lv_goto (tgt := 47) hx hb dX10_receive_70 (by decide) ?_
                  exact ihq47 (kq + 1) A62 (by omega) hR_62 (hO.trans hO_62) (hth_62.trans hth) (by omega) _ _ _ hG (lv_sub hl [2, 3, 4, 1, 0] rfl)
            exact LLq47 _ 0 (gu A 28 34 (nI 0)) (by omega) (hM.th _) (MOnly.rf.up _ _ (by decide) (by decide)) rfl (Nat.lt_succ_self _) _ _ _ hG (lv_sub hl [3, 4, 2, 1, 0] rfl)
          refine lv_iload_n hx hb dX10_receive_25 rfl (lv_at hl 1 rfl) ?_
          refine lv_aload_n hx hb dX10_receive_26 rfl (lv_at hl 0 rfl) ?_
          refine g_get (C := RX10) (T := TX10) (NN := 35) (ci := 10) hx hb hts hinX10 hown hE hG (k := 28) (by omega) rfl rfl 10 (by decide) (hts (.fieldLink RX10 117 "CommutatorModel" "onLine" "I") (List.mem_of_getElem? (i := 1) rfl)) rfl (v := .int (A 28 10)) rfl dX10_receive_27 ?_
          refine g_top (y := zI (G 28 10)) (hM 28 10 (by omega) (by omega) (by omega)) ?_
          refine lv_icmp_ge (tgt := 37) hx hb dX10_receive_30 (by decide) (fun c30 => ?_) (fun c30 => ?_)
          · skip
            have c30 : (G 28 10) ≤ ((jq : Nat) : Int) := (cmp_le (zI_toInt (by omega) (by omega)) (nI_toInt (by omega))).mp c30
            refine lv_aload_n hx hb dX10_receive_37 rfl (lv_at hl 0 rfl) ?_
            refine g_get (C := RX10) (T := TX10) (NN := 35) (ci := 10) hx hb hts hinX10 hown hE hG (k := 28) (by omega) rfl rfl 10 (by decide) (hts (.fieldLink RX10 117 "CommutatorModel" "onLine" "I") (List.mem_of_getElem? (i := 1) rfl)) rfl (v := .int (A 28 10)) rfl dX10_receive_38 ?_
            refine g_top (y := zI (G 28 10)) (hM 28 10 (by omega) (by omega) (by omega)) ?_
            exact LLq41 (G 28 10) (by omega) _ _ _ hG (lv_sub hl [0, 1] rfl)
          · skip
            have c30 : ¬ ((G 28 10) ≤ ((jq : Nat) : Int)) := fun z9 => c30 ((cmp_le (zI_toInt (by omega) (by omega)) (nI_toInt (by omega))).mpr z9)
            refine lv_iload_n hx hb dX10_receive_33 rfl (lv_at hl 1 rfl) ?_
            refine lv_goto (tgt := 41) hx hb dX10_receive_34 (by decide) ?_
            exact LLq41 ((jq : Nat) : Int) (by omega) _ _ _ hG (lv_sub hl [0, 1] rfl)
        · skip
          exact absurd c20 (by decide)
      · exact absurd hC_17 (by decide)
  · refine W.eq (g2 := F0 mM 9 ls [.int (nI 0), .ref (ad 28)]) rfl ?_
    refine lv_if_eq (tgt := 16) hx hb dX10_receive_9 (by decide) (fun c9 => ?_) (fun c9 => ?_)
    · skip
      refine lv_iconst (v := nI 1) hx hb dX10_receive_16 (by decide) ?_
      refine g_callV (As := [.int (nI 1)]) (rest := []) (r := (RX10, TX10, 35)) ⟨hx, hb, hml, hown, hts⟩ hE hG (cX10_canC l D cy base ad n A J 1 (by first | assumption | omega)) (cwV 1 hts gX10_receive_X10_can rfl rfl rfl (by decide +kernel) ⟨Nat.le_of_ble_eq_true rfl, Nat.le_of_ble_eq_true rfl⟩) (by omega) rfl rfl rfl hl.1 rfl (Nat.le_of_ble_eq_true rfl) dX10_receive_17 ⟨Nat.zero_le _, Nat.zero_le _⟩ (fun v_ A17 J17 H locs hp hG => ?_)
      rcases hp with ⟨rfl, rfl, rfl, hC_17⟩ | ⟨rfl, rfl, rfl, hC_17⟩
      · exact absurd hC_17 (by decide)
      · refine W.eq (g2 := F0 mM 20 ls [.int (nI 0)]) rfl ?_
        refine lv_if_ne (tgt := 25) hx hb dX10_receive_20 (by decide) (fun c20 => ?_) (fun c20 => ?_)
        · skip
          exact absurd c20 (by decide)
        · skip
          refine lv_iconst (v := nI 0) hx hb dX10_receive_23 (by decide) ?_
          exact g_iret hx hb hr hlocks hG (by first | exact Or.inl ⟨rfl, rfl, rfl, (by first | omega | rfl | assumption)⟩ | exact Or.inr (⟨_, _, rfl, rfl, (by first | omega | rfl | assumption), (by first | omega | rfl | assumption), (by first | omega | rfl | assumption), (by first | omega | rfl | assumption), (by first | omega | rfl | assumption), (by first | omega | rfl | assumption)⟩)) dX10_receive_24
    · skip
      exact absurd c9 (by decide)
