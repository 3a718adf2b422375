abbrev PX8_take (ad : Nat → Nat) (A : Nat → Nat → Int32) (J : Nat → Nat → Int64) (G : Nat → Nat → Int) (bq : Int) : Option Value → (Nat → Nat → Int32) → (Nat → Nat → Int64) → Prop := fun v_ A1 J1 => (v_ = some (.int (nI 0)) ∧ gu J 7 2 (gshl (J 7 2) (nI 1) ||| zL bq) = J1 ∧ (CSy A1 J1 (mTake G bq)) ∧ (∀ k, k ≠ 7 → k ≠ 8 → A1 k = A k) ∧ (¬ (G 28 14 ≠ 0 ∧ G 28 12 + 1 - G 28 15 = 64 ∧ G 28 18 ≠ 0))) ∨ (v_ = some (.int (nI 1)) ∧ gu J 7 2 (gshl (J 7 2) (nI 1) ||| zL bq) = J1 ∧ (CSy A1 J1 (mTake G bq)) ∧ (∀ k, k ≠ 7 → k ≠ 8 → A1 k = A k) ∧ (G 28 14 ≠ 0 ∧ G 28 12 + 1 - G 28 15 = 64 ∧ G 28 18 ≠ 0) ∧ (FrR (J1 7 2) (mT1 G bq) (mT1 G bq 28 15 + 63)))
set_option maxHeartbeats 4000000 in
set_option maxRecDepth 100000 in
theorem cX8_takeC (l : Launch) (D : va_G) (cy : Nat → ClassId) (base : Nat) (ad : Nat → Nat) (n : Nat) (A : Nat → Nat → Int32) (J : Nat → Nat → Int64) (G : Nat → Nat → Int) (bq : Int) (hcs : CSy A J G) (hok : mRcvOk G) (ht8 : G 28 12 < 8000) (hbq : bq = 0 ∨ bq = 1) : gMet l yX8_take wsX8_take ({ frames := 4, cells := 0, slots := 0, locals := 80 } : Room) D cy base ad n A J [.ref (ad 7), .int (zI bq)] (PX8_take ad A J G bq) := by
  refine g_ofW (cc := cX8_take) (maxL := 2) (ret := (some .boolean)) (by decide) rfl (Nat.le_of_ble_eq_true rfl) ?_
  intro pM eM sM mM aM bM methM cM H locs ls hx hb hr hts hown hlocks hml hE hG hl
  have hl : lv_has ls 2 [(0, .ref (ad 7)), (1, .int (zI bq))] := hl
  have hinX8 : ∀ w ∈ u_ws RX8 TX8 7, w ∈ wsX8_take := by decide +kernel
  obtain ⟨hokT, hokP, hok12, hokS, hokN, hokA⟩ := hok
  obtain ⟨hN16, hN17, hN18, hNc, hN21, hN19, hN20, hN22⟩ := hokN
  have hLq : LaR (gshl (J 7 2) (nI 1) ||| zL bq) (mT1 G bq) (G 28 12 + 1) := LaR_step hcs.2.2.1 hok12.1 hbq
  have hp1 : mPast (mT1 G bq) := hokP.t1 hbq
  refine lv_aload_n hx hb dX8_take_0 rfl (lv_at hl 0 rfl) ?_
  refine lv_aload_n hx hb dX8_take_1 rfl (lv_at hl 0 rfl) ?_
  refine g_get (C := RX8) (T := TX8) (NN := 7) (ci := 8) hx hb hts hinX8 hown hE hG (k := 7) (by omega) rfl rfl 2 (by decide) (hts (.fieldLink RX8 19 "Commutator$Synchroniser" "latest" "J") (List.mem_of_getElem? (i := 1) rfl)) rfl (v := .long (J 7 2)) rfl dX8_take_2 ?_
  refine lv_iconst (v := nI 1) hx hb dX8_take_5 (by decide) ?_
  refine lv_lshl (v := gshl (J 7 2) (nI 1)) hx hb dX8_take_6 rfl ?_
  refine lv_iload_n hx hb dX8_take_7 rfl (lv_at hl 1 rfl) ?_
  refine lv_i2l (v := zL bq) hx hb dX8_take_8 (zL_i2l (by omega) (by omega)) ?_
  refine lv_lor hx hb dX8_take_9 ?_
  refine g_putl (C := RX8) (T := TX8) (NN := 7) (ci := 8) hx hb hts hinX8 tyX8 tyX8_ok nmX8 hown hE hG (k := 7) (by omega) rfl rfl 2 (by decide) (hts (.fieldLink RX8 19 "Commutator$Synchroniser" "latest" "J") (List.mem_of_getElem? (i := 1) rfl)) rfl rfl (v := (gshl (J 7 2) (nI 1)) ||| zL bq) (by decide +kernel) (Nat.le_of_ble_eq_true rfl) rfl dX8_take_10 (fun H locs hG => ?_)
  refine lv_aload_n hx hb dX8_take_13 rfl (lv_at hl 0 rfl) ?_
  refine lv_dup hx hb dX8_take_14 rfl ?_
  refine g_get (C := RX8) (T := TX8) (NN := 7) (ci := 8) hx hb hts hinX8 hown hE hG (k := 7) (by omega) rfl rfl 1 (by decide) (hts (.fieldLink RX8 23 "Commutator$Synchroniser" "takenBits" "I") (List.mem_of_getElem? (i := 2) rfl)) rfl (v := .int (A 7 1)) rfl dX8_take_15 ?_
  refine g_top (y := zI (G 28 12)) (hcs.2.1) ?_
  refine lv_iconst (v := nI 1) hx hb dX8_take_18 (by decide) ?_
  refine lv_iadd hx hb dX8_take_19 ?_
  refine g_top (y := zI ((G 28 12) + 1)) (zI_add_in _ _) ?_
  refine g_puti (C := RX8) (T := TX8) (NN := 7) (ci := 8) hx hb hts hinX8 tyX8 tyX8_ok nmX8 hown hE hG (k := 7) (by omega) rfl rfl 1 (by decide) (hts (.fieldLink RX8 23 "Commutator$Synchroniser" "takenBits" "I") (List.mem_of_getElem? (i := 2) rfl)) rfl rfl (ty := .int) (v := zI ((G 28 12) + 1)) (by decide +kernel) rfl rfl (Nat.le_of_ble_eq_true rfl) rfl dX8_take_20 (fun H locs hG => ?_)
  have LLq49 : ∀  (Aq : Nat → Nat → Int32) (hc1 : CS1 A Aq G bq) (H : Heap) (locs : List Loc) (ls : Array Slot), gH D base sM ad (33 + 2 * n) (gw cy ad n Aq (gu J 7 2 ((gshl (J 7 2) (nI 1)) ||| zL bq))) H locs → lv_has ls 2 [(0, .ref (ad 7)), (1, .int (zI bq))] → W pM l eM ({ frames := 4, cells := 0, slots := 0, locals := 80 } : Room) sM mM aM bM methM cM H locs 0 0 (MQ bM (gPost D cy base ad n (PX8_take ad A J G bq)) aM sM 0 0 (fun q => base ≤ q)) (F0 mM 49 ls []) := by
    intro Aq hc1 H locs ls hG hl
    refine lv_aload_n hx hb dX8_take_49 rfl (lv_at hl 0 rfl) ?_
    refine g_get (C := RX8) (T := TX8) (NN := 7) (ci := 8) hx hb hts hinX8 hown hE hG (k := 7) (by omega) rfl rfl 0 (by decide) (hts (.fieldLink RX8 9 "Commutator$Synchroniser" "mode" "I") (List.mem_of_getElem? (i := 4) rfl)) rfl (v := .int (Aq 7 0)) rfl dX8_take_50 ?_
    refine g_top (y := zI (G 28 14)) (hc1.1) ?_
    refine lv_if_ne (tgt := 62) hx hb dX8_take_53 (by decide) (fun c53 => ?_) (fun c53 => ?_)
    · skip
      have c53 : ¬ ((zI (G 28 14)) = nI 0) := c53
      have c53 : ¬ ((G 28 14) = ((0 : Nat) : Int)) := fun z9 => c53 ((cmp_eq (zI_toInt (by omega) (by omega)) (nI_toInt (by omega))).mpr z9)
      have hst := hokS.resolve_left c53
      refine lv_aload_n hx hb dX8_take_62 rfl (lv_at hl 0 rfl) ?_
      refine lv_dup hx hb dX8_take_63 rfl ?_
      refine g_get (C := RX8) (T := TX8) (NN := 7) (ci := 8) hx hb hts hinX8 hown hE hG (k := 7) (by omega) rfl rfl 3 (by decide) (hts (.fieldLink RX8 33 "Commutator$Synchroniser" "bitsOfFrame" "I") (List.mem_of_getElem? (i := 5) rfl)) rfl (v := .int (Aq 7 3)) rfl dX8_take_64 ?_
      refine g_top (y := zI ((G 28 12 - G 28 15) % 64)) (hc1.2.2.1 (by omega)) ?_
      refine lv_iconst (v := nI 1) hx hb dX8_take_67 (by decide) ?_
      refine lv_iadd hx hb dX8_take_68 ?_
      refine g_top (y := zI (((G 28 12 - G 28 15) % 64) + 1)) (zI_add_in _ _) ?_
      refine g_puti (C := RX8) (T := TX8) (NN := 7) (ci := 8) hx hb hts hinX8 tyX8 tyX8_ok nmX8 hown hE hG (k := 7) (by omega) rfl rfl 3 (by decide) (hts (.fieldLink RX8 33 "Commutator$Synchroniser" "bitsOfFrame" "I") (List.mem_of_getElem? (i := 5) rfl)) rfl rfl (ty := .int) (v := zI (((G 28 12 - G 28 15) % 64) + 1)) (by decide +kernel) rfl rfl (Nat.le_of_ble_eq_true rfl) rfl dX8_take_69 (fun H locs hG => ?_)
      refine lv_aload_n hx hb dX8_take_72 rfl (lv_at hl 0 rfl) ?_
      refine g_get (C := RX8) (T := TX8) (NN := 7) (ci := 8) hx hb hts hinX8 hown hE hG (k := 7) (by omega) rfl rfl 3 (by decide) (hts (.fieldLink RX8 33 "Commutator$Synchroniser" "bitsOfFrame" "I") (List.mem_of_getElem? (i := 5) rfl)) rfl (v := .int (zI (((G 28 12 - G 28 15) % 64) + 1))) rfl dX8_take_73 ?_
      refine lv_bipush (v := nI 8) hx hb dX8_take_76 (by decide) ?_
      refine lv_icmp_ne (tgt := 85) hx hb dX8_take_78 (by decide) (fun c78 => ?_) (fun c78 => ?_)
      · skip
        have c78 : ¬ ((((G 28 12 - G 28 15) % 64) + 1) = ((8 : Nat) : Int)) := fun z9 => c78 ((cmp_eq (zI_toInt (by omega) (by omega)) (nI_toInt (by omega))).mpr z9)
        have hT := T_c (b := bq) c53 (by omega)
        refine lv_aload_n hx hb dX8_take_85 rfl (lv_at hl 0 rfl) ?_
        refine g_get (C := RX8) (T := TX8) (NN := 7) (ci := 8) hx hb hts hinX8 hown hE hG (k := 7) (by omega) rfl rfl 3 (by decide) (hts (.fieldLink RX8 33 "Commutator$Synchroniser" "bitsOfFrame" "I") (List.mem_of_getElem? (i := 5) rfl)) rfl (v := .int (zI (((G 28 12 - G 28 15) % 64) + 1))) rfl dX8_take_86 ?_
        refine lv_bipush (v := nI 64) hx hb dX8_take_89 (by decide) ?_
        refine lv_icmp_ge (tgt := 96) hx hb dX8_take_91 (by decide) (fun c91 => ?_) (fun c91 => ?_)
        · skip
          have c91 : ((64 : Nat) : Int) ≤ (((G 28 12 - G 28 15) % 64) + 1) := (cmp_le (nI_toInt (by omega)) (zI_toInt (by omega) (by omega))).mp c91
          refine lv_aload_n hx hb dX8_take_96 rfl (lv_at hl 0 rfl) ?_
          refine lv_iconst (v := nI 0) hx hb dX8_take_97 (by decide) ?_
          refine g_puti (C := RX8) (T := TX8) (NN := 7) (ci := 8) hx hb hts hinX8 tyX8 tyX8_ok nmX8 hown hE hG (k := 7) (by omega) rfl rfl 3 (by decide) (hts (.fieldLink RX8 33 "Commutator$Synchroniser" "bitsOfFrame" "I") (List.mem_of_getElem? (i := 5) rfl)) rfl rfl (ty := .int) (v := nI 0) (by decide +kernel) rfl rfl (Nat.le_of_ble_eq_true rfl) rfl dX8_take_98 (fun H locs hG => ?_)
          refine lv_aload_n hx hb dX8_take_101 rfl (lv_at hl 0 rfl) ?_
          refine g_get (C := RX8) (T := TX8) (NN := 7) (ci := 8) hx hb hts hinX8 hown hE hG (k := 7) (by omega) rfl rfl 0 (by decide) (hts (.fieldLink RX8 9 "Commutator$Synchroniser" "mode" "I") (List.mem_of_getElem? (i := 4) rfl)) rfl (v := .int (Aq 7 0)) rfl dX8_take_102 ?_
          refine g_top (y := zI (G 28 14)) (hc1.1) ?_
          refine lv_iconst (v := nI 2) hx hb dX8_take_105 (by decide) ?_
          refine lv_icmp_ne (tgt := 113) hx hb dX8_take_106 (by decide) (fun c106 => ?_) (fun c106 => ?_)
          · skip
            have c106 : ¬ ((G 28 14) = ((2 : Nat) : Int)) := fun z9 => c106 ((cmp_eq (zI_toInt (by omega) (by omega)) (nI_toInt (by omega))).mpr z9)
            have hcs9 : CSy (gu (gu Aq 7 3 (zI (((G 28 12 - G 28 15) % 64) + 1))) 7 3 (nI 0)) (gu J 7 2 ((gshl (J 7 2) (nI 1)) ||| zL bq)) (mTake G bq) := CSy_fin hc1 hLq rfl rfl (by rw [hT.1]; exact hc1.1) (fun _ => by rw [hT.2.1, show (G 28 12 + 1 - G 28 15) % 64 = 0 from by omega]; rfl) (fun z9 => by rw [hT.2.2.1]; exact hc1.2.2.2.1 (hT.1.symm.trans z9)) (fun z9 => by rw [hT.2.2.2]; exact hc1.2.2.2.2.1 (hT.1.symm.trans z9))
            refine lv_iconst (v := nI 0) hx hb dX8_take_113 (by decide) ?_
            exact g_zret hx hb hr hlocks hG rfl (Or.inl ⟨rfl, rfl, hcs9, (fun k a c => by (repeat rw [gu_ne _ _ _ a]); exact hc1.2.2.2.2.2.2 k a c), (by omega)⟩) dX8_take_114
          · skip
            have c106 : (G 28 14) = ((2 : Nat) : Int) := (cmp_eq (zI_toInt (by omega) (by omega)) (nI_toInt (by omega))).mp c106
            have hcs9 : CSy (gu (gu Aq 7 3 (zI (((G 28 12 - G 28 15) % 64) + 1))) 7 3 (nI 0)) (gu J 7 2 ((gshl (J 7 2) (nI 1)) ||| zL bq)) (mTake G bq) := CSy_fin hc1 hLq rfl rfl (by rw [hT.1]; exact hc1.1) (fun _ => by rw [hT.2.1, show (G 28 12 + 1 - G 28 15) % 64 = 0 from by omega]; rfl) (fun z9 => by rw [hT.2.2.1]; exact hc1.2.2.2.1 (hT.1.symm.trans z9)) (fun z9 => by rw [hT.2.2.2]; exact hc1.2.2.2.2.1 (hT.1.symm.trans z9))
            refine lv_iconst (v := nI 1) hx hb dX8_take_109 (by decide) ?_
            refine lv_goto (tgt := 114) hx hb dX8_take_110 (by decide) ?_
            exact g_zret hx hb hr hlocks hG rfl (Or.inr ⟨rfl, rfl, hcs9, (fun k a c => by (repeat rw [gu_ne _ _ _ a]); exact hc1.2.2.2.2.2.2 k a c), ⟨by omega, by omega, by omega⟩, (by rw [mT1_28 _ _ (by decide), show G 28 15 + 63 = G 28 12 + 1 - 1 from by omega]; exact La_fr hLq (by omega))⟩) dX8_take_114
        · skip
          have c91 : ¬ (((64 : Nat) : Int) ≤ (((G 28 12 - G 28 15) % 64) + 1)) := fun z9 => c91 ((cmp_le (nI_toInt (by omega)) (zI_toInt (by omega) (by omega))).mpr z9)
          have hcs9 : CSy (gu Aq 7 3 (zI (((G 28 12 - G 28 15) % 64) + 1))) (gu J 7 2 ((gshl (J 7 2) (nI 1)) ||| zL bq)) (mTake G bq) := CSy_fin hc1 hLq rfl rfl (by rw [hT.1]; exact hc1.1) (fun _ => by rw [hT.2.1]; show zI ((G 28 12 - G 28 15) % 64 + 1) = _; congr 1; omega) (fun z9 => by rw [hT.2.2.1]; exact hc1.2.2.2.1 (hT.1.symm.trans z9)) (fun z9 => by rw [hT.2.2.2]; exact hc1.2.2.2.2.1 (hT.1.symm.trans z9))
          refine lv_iconst (v := nI 0) hx hb dX8_take_94 (by decide) ?_
          exact g_zret hx hb hr hlocks hG rfl (Or.inl ⟨rfl, rfl, hcs9, (fun k a c => by (repeat rw [gu_ne _ _ _ a]); exact hc1.2.2.2.2.2.2 k a c), (by omega)⟩) dX8_take_95
      · skip
        have c78 : (((G 28 12 - G 28 15) % 64) + 1) = ((8 : Nat) : Int) := (cmp_eq (zI_toInt (by omega) (by omega)) (nI_toInt (by omega))).mp c78
        have h72 : G 28 12 + 1 - G 28 15 = 72 := by omega
        refine lv_aload_n hx hb dX8_take_81 rfl (lv_at hl 0 rfl) ?_
        refine g_callV (As := []) (rest := []) (r := (RX8, TX8, 7)) ⟨hx, hb, hml, hown, hts⟩ hE hG (cX8_judgeSyncWordC l D cy base ad n (gu Aq 7 3 (zI (((G 28 12 - G 28 15) % 64) + 1))) (gu J 7 2 ((gshl (J 7 2) (nI 1)) ||| zL bq)) (G 28 14) (G 28 16) (G 28 17) ⟨hc1.1, hst.1⟩ (fun z9 => ⟨hc1.2.2.2.1 z9, by omega, by omega⟩) (fun z9 => ⟨hc1.2.2.2.2.1 z9, by omega, by omega⟩)) (cwV 0 hts gX8_take_X8_judgeSyncWord rfl rfl rfl (by decide +kernel) ⟨Nat.le_of_ble_eq_true rfl, Nat.le_of_ble_eq_true rfl⟩) (by omega) rfl rfl rfl hl.1 rfl (Nat.le_of_ble_eq_true rfl) dX8_take_82 ⟨Nat.zero_le _, Nat.zero_le _⟩ (fun v_ A82 J82 H locs hp hG => ?_)
        rcases hp with ⟨rfl, rfl, rfl, hC_82⟩ | ⟨rfl, rfl, rfl, hC_82⟩ | ⟨rfl, rfl, rfl, hC_82⟩ | ⟨rfl, rfl, rfl, hC_82⟩ | ⟨rfl, rfl, rfl, hC_82⟩ | ⟨rfl, rfl, rfl, hC_82⟩
        · refine W.eq (g2 := F0 mM 85 ls []) rfl ?_
          have hT := T_b hp1 h72 (show ((lnat (gshl (J 7 2) (nI 1) ||| zL bq) % 256 : Nat) : Int) = mBits (mT1 G bq) (G 28 12 + 1 - 8) 8 from La_word hp1 hLq (by omega)) hst.1
          have h14 := (hT.2.1 hC_82.1).1 hC_82.2
          have hcs9 : CSy (gu (gu Aq 7 3 (zI (((G 28 12 - G 28 15) % 64) + 1))) 7 0 (nI 0)) (gu J 7 2 ((gshl (J 7 2) (nI 1)) ||| zL bq)) (mTake G bq) := CSy_fin hc1 hLq rfl rfl (by rw [h14]; rfl) (fun z9 => absurd h14 z9) (fun z9 => absurd (h14.symm.trans z9) (by decide)) (fun z9 => absurd (h14.symm.trans z9) (by decide))
          refine lv_aload_n hx hb dX8_take_85 rfl (lv_at hl 0 rfl) ?_
          refine g_get (C := RX8) (T := TX8) (NN := 7) (ci := 8) hx hb hts hinX8 hown hE hG (k := 7) (by omega) rfl rfl 3 (by decide) (hts (.fieldLink RX8 33 "Commutator$Synchroniser" "bitsOfFrame" "I") (List.mem_of_getElem? (i := 5) rfl)) rfl (v := .int (zI (((G 28 12 - G 28 15) % 64) + 1))) rfl dX8_take_86 ?_
          refine lv_bipush (v := nI 64) hx hb dX8_take_89 (by decide) ?_
          refine lv_icmp_ge (tgt := 96) hx hb dX8_take_91 (by decide) (fun c91 => ?_) (fun c91 => ?_)
          · skip
            have c91 : ((64 : Nat) : Int) ≤ (((G 28 12 - G 28 15) % 64) + 1) := (cmp_le (nI_toInt (by omega)) (zI_toInt (by omega) (by omega))).mp c91
            exfalso; omega
          · skip
            have c91 : ¬ (((64 : Nat) : Int) ≤ (((G 28 12 - G 28 15) % 64) + 1)) := fun z9 => c91 ((cmp_le (nI_toInt (by omega)) (zI_toInt (by omega) (by omega))).mpr z9)
            refine lv_iconst (v := nI 0) hx hb dX8_take_94 (by decide) ?_
            exact g_zret hx hb hr hlocks hG rfl (Or.inl ⟨rfl, rfl, hcs9, (fun k a c => by (repeat rw [gu_ne _ _ _ a]); exact hc1.2.2.2.2.2.2 k a c), (by omega)⟩) dX8_take_95
        · refine W.eq (g2 := F0 mM 85 ls []) rfl ?_
          have hT := T_b hp1 h72 (show ((lnat (gshl (J 7 2) (nI 1) ||| zL bq) % 256 : Nat) : Int) = mBits (mT1 G bq) (G 28 12 + 1 - 8) 8 from La_word hp1 hLq (by omega)) hst.1
          have h14 := (hT.2.1 hC_82.1).2.1 hC_82.2.1 hC_82.2.2
          have hcs9 : CSy (gu (gu (gu (gu Aq 7 3 (zI (((G 28 12 - G 28 15) % 64) + 1))) 7 4 (zI ((G 28 16) + 1))) 7 0 (nI 2)) 7 5 (nI 0)) (gu J 7 2 ((gshl (J 7 2) (nI 1)) ||| zL bq)) (mTake G bq) := CSy_fin hc1 hLq rfl rfl (by rw [h14.1]; rfl) (fun _ => by rw [hT.1]; show zI ((G 28 12 - G 28 15) % 64 + 1) = _; congr 1; omega) (fun z9 => absurd (h14.1.symm.trans z9) (by decide)) (fun _ => by rw [h14.2]; rfl)
          refine lv_aload_n hx hb dX8_take_85 rfl (lv_at hl 0 rfl) ?_
          refine g_get (C := RX8) (T := TX8) (NN := 7) (ci := 8) hx hb hts hinX8 hown hE hG (k := 7) (by omega) rfl rfl 3 (by decide) (hts (.fieldLink RX8 33 "Commutator$Synchroniser" "bitsOfFrame" "I") (List.mem_of_getElem? (i := 5) rfl)) rfl (v := .int (zI (((G 28 12 - G 28 15) % 64) + 1))) rfl dX8_take_86 ?_
          refine lv_bipush (v := nI 64) hx hb dX8_take_89 (by decide) ?_
          refine lv_icmp_ge (tgt := 96) hx hb dX8_take_91 (by decide) (fun c91 => ?_) (fun c91 => ?_)
          · skip
            have c91 : ((64 : Nat) : Int) ≤ (((G 28 12 - G 28 15) % 64) + 1) := (cmp_le (nI_toInt (by omega)) (zI_toInt (by omega) (by omega))).mp c91
            exfalso; omega
          · skip
            have c91 : ¬ (((64 : Nat) : Int) ≤ (((G 28 12 - G 28 15) % 64) + 1)) := fun z9 => c91 ((cmp_le (nI_toInt (by omega)) (zI_toInt (by omega) (by omega))).mpr z9)
            refine lv_iconst (v := nI 0) hx hb dX8_take_94 (by decide) ?_
            exact g_zret hx hb hr hlocks hG rfl (Or.inl ⟨rfl, rfl, hcs9, (fun k a c => by (repeat rw [gu_ne _ _ _ a]); exact hc1.2.2.2.2.2.2 k a c), (by omega)⟩) dX8_take_95
        · refine W.eq (g2 := F0 mM 85 ls []) rfl ?_
          have hT := T_b hp1 h72 (show ((lnat (gshl (J 7 2) (nI 1) ||| zL bq) % 256 : Nat) : Int) = mBits (mT1 G bq) (G 28 12 + 1 - 8) 8 from La_word hp1 hLq (by omega)) hst.1
          have h14 := (hT.2.1 hC_82.1).2.2 hC_82.2.1 hC_82.2.2
          have hcs9 : CSy (gu (gu Aq 7 3 (zI (((G 28 12 - G 28 15) % 64) + 1))) 7 4 (zI ((G 28 16) + 1))) (gu J 7 2 ((gshl (J 7 2) (nI 1)) ||| zL bq)) (mTake G bq) := CSy_fin hc1 hLq rfl rfl (by rw [h14.1]; exact hc1.1.trans (congrArg zI hC_82.1)) (fun _ => by rw [hT.1]; show zI ((G 28 12 - G 28 15) % 64 + 1) = _; congr 1; omega) (fun _ => by rw [h14.2]; rfl) (fun z9 => absurd (h14.1.symm.trans z9) (by decide))
          refine lv_aload_n hx hb dX8_take_85 rfl (lv_at hl 0 rfl) ?_
          refine g_get (C := RX8) (T := TX8) (NN := 7) (ci := 8) hx hb hts hinX8 hown hE hG (k := 7) (by omega) rfl rfl 3 (by decide) (hts (.fieldLink RX8 33 "Commutator$Synchroniser" "bitsOfFrame" "I") (List.mem_of_getElem? (i := 5) rfl)) rfl (v := .int (zI (((G 28 12 - G 28 15) % 64) + 1))) rfl dX8_take_86 ?_
          refine lv_bipush (v := nI 64) hx hb dX8_take_89 (by decide) ?_
          refine lv_icmp_ge (tgt := 96) hx hb dX8_take_91 (by decide) (fun c91 => ?_) (fun c91 => ?_)
          · skip
            have c91 : ((64 : Nat) : Int) ≤ (((G 28 12 - G 28 15) % 64) + 1) := (cmp_le (nI_toInt (by omega)) (zI_toInt (by omega) (by omega))).mp c91
            exfalso; omega
          · skip
            have c91 : ¬ (((64 : Nat) : Int) ≤ (((G 28 12 - G 28 15) % 64) + 1)) := fun z9 => c91 ((cmp_le (nI_toInt (by omega)) (zI_toInt (by omega) (by omega))).mpr z9)
            refine lv_iconst (v := nI 0) hx hb dX8_take_94 (by decide) ?_
            exact g_zret hx hb hr hlocks hG rfl (Or.inl ⟨rfl, rfl, hcs9, (fun k a c => by (repeat rw [gu_ne _ _ _ a]); exact hc1.2.2.2.2.2.2 k a c), (by omega)⟩) dX8_take_95
        · refine W.eq (g2 := F0 mM 85 ls []) rfl ?_
          have hT := T_b hp1 h72 (show ((lnat (gshl (J 7 2) (nI 1) ||| zL bq) % 256 : Nat) : Int) = mBits (mT1 G bq) (G 28 12 + 1 - 8) 8 from La_word hp1 hLq (by omega)) hst.1
          have h14 := (hT.2.2 hC_82.1).1 hC_82.2
          have hcs9 : CSy (gu (gu Aq 7 3 (zI (((G 28 12 - G 28 15) % 64) + 1))) 7 5 (nI 0)) (gu J 7 2 ((gshl (J 7 2) (nI 1)) ||| zL bq)) (mTake G bq) := CSy_fin hc1 hLq rfl rfl (by rw [h14.1]; exact hc1.1.trans (congrArg zI hC_82.1)) (fun _ => by rw [hT.1]; show zI ((G 28 12 - G 28 15) % 64 + 1) = _; congr 1; omega) (fun z9 => absurd (h14.1.symm.trans z9) (by decide)) (fun _ => by rw [h14.2]; rfl)
          refine lv_aload_n hx hb dX8_take_85 rfl (lv_at hl 0 rfl) ?_
          refine g_get (C := RX8) (T := TX8) (NN := 7) (ci := 8) hx hb hts hinX8 hown hE hG (k := 7) (by omega) rfl rfl 3 (by decide) (hts (.fieldLink RX8 33 "Commutator$Synchroniser" "bitsOfFrame" "I") (List.mem_of_getElem? (i := 5) rfl)) rfl (v := .int (zI (((G 28 12 - G 28 15) % 64) + 1))) rfl dX8_take_86 ?_
          refine lv_bipush (v := nI 64) hx hb dX8_take_89 (by decide) ?_
          refine lv_icmp_ge (tgt := 96) hx hb dX8_take_91 (by decide) (fun c91 => ?_) (fun c91 => ?_)
          · skip
            have c91 : ((64 : Nat) : Int) ≤ (((G 28 12 - G 28 15) % 64) + 1) := (cmp_le (nI_toInt (by omega)) (zI_toInt (by omega) (by omega))).mp c91
            exfalso; omega
          · skip
            have c91 : ¬ (((64 : Nat) : Int) ≤ (((G 28 12 - G 28 15) % 64) + 1)) := fun z9 => c91 ((cmp_le (nI_toInt (by omega)) (zI_toInt (by omega) (by omega))).mpr z9)
            refine lv_iconst (v := nI 0) hx hb dX8_take_94 (by decide) ?_
            exact g_zret hx hb hr hlocks hG rfl (Or.inl ⟨rfl, rfl, hcs9, (fun k a c => by (repeat rw [gu_ne _ _ _ a]); exact hc1.2.2.2.2.2.2 k a c), (by omega)⟩) dX8_take_95
        · refine W.eq (g2 := F0 mM 85 ls []) rfl ?_
          have hT := T_b hp1 h72 (show ((lnat (gshl (J 7 2) (nI 1) ||| zL bq) % 256 : Nat) : Int) = mBits (mT1 G bq) (G 28 12 + 1 - 8) 8 from La_word hp1 hLq (by omega)) hst.1
          have h14 := (hT.2.2 hC_82.1).2.1 hC_82.2.1 hC_82.2.2
          have hcs9 : CSy (gu (gu (gu Aq 7 3 (zI (((G 28 12 - G 28 15) % 64) + 1))) 7 5 (zI ((G 28 17) + 1))) 7 0 (nI 0)) (gu J 7 2 ((gshl (J 7 2) (nI 1)) ||| zL bq)) (mTake G bq) := CSy_fin hc1 hLq rfl rfl (by rw [h14]; rfl) (fun z9 => absurd h14 z9) (fun z9 => absurd (h14.symm.trans z9) (by decide)) (fun z9 => absurd (h14.symm.trans z9) (by decide))
          refine lv_aload_n hx hb dX8_take_85 rfl (lv_at hl 0 rfl) ?_
          refine g_get (C := RX8) (T := TX8) (NN := 7) (ci := 8) hx hb hts hinX8 hown hE hG (k := 7) (by omega) rfl rfl 3 (by decide) (hts (.fieldLink RX8 33 "Commutator$Synchroniser" "bitsOfFrame" "I") (List.mem_of_getElem? (i := 5) rfl)) rfl (v := .int (zI (((G 28 12 - G 28 15) % 64) + 1))) rfl dX8_take_86 ?_
          refine lv_bipush (v := nI 64) hx hb dX8_take_89 (by decide) ?_
          refine lv_icmp_ge (tgt := 96) hx hb dX8_take_91 (by decide) (fun c91 => ?_) (fun c91 => ?_)
          · skip
            have c91 : ((64 : Nat) : Int) ≤ (((G 28 12 - G 28 15) % 64) + 1) := (cmp_le (nI_toInt (by omega)) (zI_toInt (by omega) (by omega))).mp c91
            exfalso; omega
          · skip
            have c91 : ¬ (((64 : Nat) : Int) ≤ (((G 28 12 - G 28 15) % 64) + 1)) := fun z9 => c91 ((cmp_le (nI_toInt (by omega)) (zI_toInt (by omega) (by omega))).mpr z9)
            refine lv_iconst (v := nI 0) hx hb dX8_take_94 (by decide) ?_
            exact g_zret hx hb hr hlocks hG rfl (Or.inl ⟨rfl, rfl, hcs9, (fun k a c => by (repeat rw [gu_ne _ _ _ a]); exact hc1.2.2.2.2.2.2 k a c), (by omega)⟩) dX8_take_95
        · refine W.eq (g2 := F0 mM 85 ls []) rfl ?_
          have hT := T_b hp1 h72 (show ((lnat (gshl (J 7 2) (nI 1) ||| zL bq) % 256 : Nat) : Int) = mBits (mT1 G bq) (G 28 12 + 1 - 8) 8 from La_word hp1 hLq (by omega)) hst.1
          have h14 := (hT.2.2 hC_82.1).2.2 hC_82.2.1 hC_82.2.2
          have hcs9 : CSy (gu (gu Aq 7 3 (zI (((G 28 12 - G 28 15) % 64) + 1))) 7 5 (zI ((G 28 17) + 1))) (gu J 7 2 ((gshl (J 7 2) (nI 1)) ||| zL bq)) (mTake G bq) := CSy_fin hc1 hLq rfl rfl (by rw [h14.1]; exact hc1.1.trans (congrArg zI hC_82.1)) (fun _ => by rw [hT.1]; show zI ((G 28 12 - G 28 15) % 64 + 1) = _; congr 1; omega) (fun z9 => absurd (h14.1.symm.trans z9) (by decide)) (fun _ => by rw [h14.2]; rfl)
          refine lv_aload_n hx hb dX8_take_85 rfl (lv_at hl 0 rfl) ?_
          refine g_get (C := RX8) (T := TX8) (NN := 7) (ci := 8) hx hb hts hinX8 hown hE hG (k := 7) (by omega) rfl rfl 3 (by decide) (hts (.fieldLink RX8 33 "Commutator$Synchroniser" "bitsOfFrame" "I") (List.mem_of_getElem? (i := 5) rfl)) rfl (v := .int (zI (((G 28 12 - G 28 15) % 64) + 1))) rfl dX8_take_86 ?_
          refine lv_bipush (v := nI 64) hx hb dX8_take_89 (by decide) ?_
          refine lv_icmp_ge (tgt := 96) hx hb dX8_take_91 (by decide) (fun c91 => ?_) (fun c91 => ?_)
          · skip
            have c91 : ((64 : Nat) : Int) ≤ (((G 28 12 - G 28 15) % 64) + 1) := (cmp_le (nI_toInt (by omega)) (zI_toInt (by omega) (by omega))).mp c91
            exfalso; omega
          · skip
            have c91 : ¬ (((64 : Nat) : Int) ≤ (((G 28 12 - G 28 15) % 64) + 1)) := fun z9 => c91 ((cmp_le (nI_toInt (by omega)) (zI_toInt (by omega) (by omega))).mpr z9)
            refine lv_iconst (v := nI 0) hx hb dX8_take_94 (by decide) ?_
            exact g_zret hx hb hr hlocks hG rfl (Or.inl ⟨rfl, rfl, hcs9, (fun k a c => by (repeat rw [gu_ne _ _ _ a]); exact hc1.2.2.2.2.2.2 k a c), (by omega)⟩) dX8_take_95
    · skip
      have c53 : (zI (G 28 14)) = nI 0 := c53
      have c53 : (G 28 14) = ((0 : Nat) : Int) := (cmp_eq (zI_toInt (by omega) (by omega)) (nI_toInt (by omega))).mp c53
      refine lv_aload_n hx hb dX8_take_56 rfl (lv_at hl 0 rfl) ?_
      refine g_callV (As := []) (rest := []) (r := (RX8, TX8, 7)) ⟨hx, hb, hml, hown, hts⟩ hE hG (cX8_searchC l D cy base ad n Aq (gu J 7 2 ((gshl (J 7 2) (nI 1)) ||| zL bq)) ) (cwV 0 hts gX8_take_X8_search rfl rfl rfl (by decide +kernel) ⟨Nat.le_of_ble_eq_true rfl, Nat.le_of_ble_eq_true rfl⟩) (by omega) rfl rfl rfl hl.1 rfl (Nat.le_of_ble_eq_true rfl) dX8_take_57 ⟨Nat.zero_le _, Nat.zero_le _⟩ (fun v_ A57 J57 H locs hp hG => ?_)
      rcases hp with ⟨rfl, rfl, rfl, hC_57⟩ | ⟨rfl, rfl, rfl, hC_57⟩
      · refine W.eq (g2 := F0 mM 60 ls []) rfl ?_
        have h184 : lnat (gshl (J 7 2) (nI 1) ||| zL bq) % 256 = 184 := hC_57
        have h88 := La_184 hLq h184
        have hwd : mBits (mT1 G bq) (G 28 12 + 1 - 8) 8 = 184 := by have h9 := La_word hp1 hLq h88; omega
        have hT := T_a1 c53 h88 hwd
        have hcs9 : CSy (gu (gu (gu Aq 7 0 (nI 1)) 7 4 (nI 1)) 7 3 (nI 8)) (gu J 7 2 ((gshl (J 7 2) (nI 1)) ||| zL bq)) (mTake G bq) := CSy_fin hc1 hLq rfl rfl (by rw [hT.1]; rfl) (fun _ => by rw [hT.2.1, show (G 28 12 + 1 - (G 28 12 + 1 - 8)) % 64 = 8 from by omega]; rfl) (fun _ => by rw [hT.2.2]; rfl) (fun z9 => absurd (hT.1.symm.trans z9) (by decide))
        refine lv_iconst (v := nI 0) hx hb dX8_take_60 (by decide) ?_
        exact g_zret hx hb hr hlocks hG rfl (Or.inl ⟨rfl, rfl, hcs9, (fun k a c => by (repeat rw [gu_ne _ _ _ a]); exact hc1.2.2.2.2.2.2 k a c), (by omega)⟩) dX8_take_61
      · refine W.eq (g2 := F0 mM 60 ls []) rfl ?_
        have hn184 : ¬ lnat (gshl (J 7 2) (nI 1) ||| zL bq) % 256 = 184 := hC_57
        have hT := T_a0 (b := bq) c53 (fun z9 => by have h9 := La_word hp1 hLq z9.1; omega)
        have hcs9 : CSy Aq (gu J 7 2 ((gshl (J 7 2) (nI 1)) ||| zL bq)) (mTake G bq) := CSy_fin hc1 hLq rfl rfl (hc1.1.trans (congrArg zI (c53.trans hT.symm))) (fun z9 => absurd hT z9) (fun z9 => absurd (hT.symm.trans z9) (by decide)) (fun z9 => absurd (hT.symm.trans z9) (by decide))
        refine lv_iconst (v := nI 0) hx hb dX8_take_60 (by decide) ?_
        exact g_zret hx hb hr hlocks hG rfl (Or.inl ⟨rfl, rfl, hcs9, (fun k a c => by (repeat rw [gu_ne _ _ _ a]); exact hc1.2.2.2.2.2.2 k a c), (by omega)⟩) dX8_take_61
  refine lv_aload_n hx hb dX8_take_23 rfl (lv_at hl 0 rfl) ?_
  refine g_callV (As := []) (rest := []) (r := (RX8, TX8, 7)) ⟨hx, hb, hml, hown, hts⟩ hE hG (cX8_isSyncWordC l D cy base ad n (gu A 7 1 (zI ((G 28 12) + 1))) (gu J 7 2 ((gshl (J 7 2) (nI 1)) ||| zL bq)) ) (cwV 0 hts gX8_take_X8_isSyncWord rfl rfl rfl (by decide +kernel) ⟨Nat.le_of_ble_eq_true rfl, Nat.le_of_ble_eq_true rfl⟩) (by omega) rfl rfl rfl hl.1 rfl (Nat.le_of_ble_eq_true rfl) dX8_take_24 ⟨Nat.zero_le _, Nat.zero_le _⟩ (fun v_ A24 J24 H locs hp hG => ?_)
  rcases hp with ⟨rfl, rfl, rfl, hC_24⟩ | ⟨rfl, rfl, rfl, hC_24⟩
  · refine W.eq (g2 := F0 mM 27 ls [.int (nI 1)]) rfl ?_
    have h184 : lnat (gshl (J 7 2) (nI 1) ||| zL bq) % 256 = 184 := hC_24
    have h88 := La_184 hLq h184
    have hwd : mBits (mT1 G bq) (G 28 12 + 1 - 8) 8 = 184 := by have h9 := La_word hp1 hLq h88; omega
    have hc1x := CS1_y hcs hok12.1 h88 hwd
    refine lv_if_eq (tgt := 49) hx hb dX8_take_27 (by decide) (fun c27 => ?_) (fun c27 => ?_)
    · skip
      exact absurd c27 (by decide)
    · skip
      refine lv_aload_n hx hb dX8_take_30 rfl (lv_at hl 0 rfl) ?_
      refine g_get (C := RX8) (T := TX8) (NN := 7) (ci := 8) hx hb hts hinX8 hown hE hG (k := 7) (by omega) rfl rfl 6 (by decide) (hts (.fieldLink RX8 15 "Commutator$Synchroniser" "syncWords" "[I") (List.mem_of_getElem? (i := 3) rfl)) rfl (v := .ref (ad 8)) rfl dX8_take_31 ?_
      refine lv_aload_n hx hb dX8_take_34 rfl (lv_at hl 0 rfl) ?_
      refine g_get (C := RX8) (T := TX8) (NN := 7) (ci := 8) hx hb hts hinX8 hown hE hG (k := 7) (by omega) rfl rfl 1 (by decide) (hts (.fieldLink RX8 23 "Commutator$Synchroniser" "takenBits" "I") (List.mem_of_getElem? (i := 2) rfl)) rfl (v := .int (zI ((G 28 12) + 1))) rfl dX8_take_35 ?_
      refine lv_bipush (v := nI 8) hx hb dX8_take_38 (by decide) ?_
      refine lv_isub hx hb dX8_take_40 ?_
      refine g_top (y := zI (((G 28 12) + 1) - 8)) (zI_sub_in _ _) ?_
      refine lv_bipush (v := nI 63) hx hb dX8_take_41 (by decide) ?_
      refine lv_iand hx hb dX8_take_43 ?_
      refine g_top (y := zI ((G 28 12 + 1 - 8) % 64)) (z_and63 _) ?_
      refine lv_dup2_11 hx hb dX8_take_44 rfl rfl ?_
      refine g_iald hx hb hE hG (k := 8) (by omega) rfl (((G 28 12 + 1 - 8) % 64).toNat) (zI_nat (by omega)) (by omega) (by omega) dX8_take_45 ?_
      refine g_top (y := A 8 (((G 28 12 + 1 - 8) % 64).toNat)) (by first | rfl | (simp [gu_at]; done) | (rw [gu_at]; simp; omega)) ?_
      refine g_top (y := zI (mMat G (((G 28 12 + 1 - 8) % 64).toNat))) (hcs.2.2.2.2.2.2 _ (by omega)) ?_
      refine lv_iconst (v := nI 1) hx hb dX8_take_46 (by decide) ?_
      refine lv_iadd hx hb dX8_take_47 ?_
      refine g_top (y := zI ((mMat G (((G 28 12 + 1 - 8) % 64).toNat)) + 1)) (zI_add_in _ _) ?_
      refine g_iast hx hb hE hG (k := 8) (by omega) (fun _ => rfl) (((G 28 12 + 1 - 8) % 64).toNat) (zI_nat (by omega)) (by omega) (by omega) dX8_take_48 (fun H locs hG => ?_)
      exact LLq49 (gu (gu A 7 1 (zI ((G 28 12) + 1))) 8 (((G 28 12 + 1 - 8) % 64).toNat) (zI ((mMat G (((G 28 12 + 1 - 8) % 64).toNat)) + 1))) hc1x _ _ _ hG (lv_sub hl [0, 1] rfl)
  · refine W.eq (g2 := F0 mM 27 ls [.int (nI 0)]) rfl ?_
    have hn184 : ¬ lnat (gshl (J 7 2) (nI 1) ||| zL bq) % 256 = 184 := hC_24
    have hc1x := CS1_n (b := bq) hcs hok12.1 (fun z9 => by have h9 := La_word hp1 hLq z9.1; omega)
    refine lv_if_eq (tgt := 49) hx hb dX8_take_27 (by decide) (fun c27 => ?_) (fun c27 => ?_)
    · skip
      exact LLq49 (gu A 7 1 (zI ((G 28 12) + 1))) hc1x _ _ _ hG (lv_sub hl [0, 1] rfl)
    · skip
      exact absurd c27 (by decide)
