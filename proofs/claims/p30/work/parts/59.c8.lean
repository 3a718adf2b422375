abbrev PX7_packSamples (ad : Nat → Nat) (A : Nat → Nat → Int32) (J : Nat → Nat → Int64) (G : Nat → Nat → Int) (cq wdq : Int) : Option Value → (Nat → Nat → Int32) → (Nat → Nat → Int64) → Prop := fun v_ A1 J1 => (v_ = none ∧ A = A1 ∧ (FrS (J1 6 1) G cq wdq (2 * (G 28 0).toNat) (mSnd G cq wdq (2 * (G 28 0).toNat))) ∧ (∀ k j, ¬ (k = 6 ∧ j = 1) → J1 k j = J k j))
set_option maxHeartbeats 4000000 in
set_option maxRecDepth 100000 in
theorem cX7_packSamplesC (l : Launch) (D : va_G) (cy : Nat → ClassId) (base : Nat) (ad : Nat → Nat) (n : Nat) (A : Nat → Nat → Int32) (J : Nat → Nat → Int64) (G : Nat → Nat → Int) (cq wdq : Int) (hct : A 1 1 = nI n ∧ n ≤ 12) (hn : G 28 0 = (n : Int)) (hT : TsOk G) (hFs : ∀ i : Nat, i < n → PtF A G i) (hpr : mPres G) (hcq : 0 ≤ cq ∧ cq < 256) (hwq : 0 ≤ wdq ∧ wdq < 8) (hfr : FrS (J 6 1) G cq wdq 0 (G 36)) : gMet l yX7_packSamples wsX7_packSamples ({ frames := 2, cells := 0, slots := 0, locals := 42 } : Room) D cy base ad n A J [.ref (ad 6), .ref (ad 1), .int (zI cq), .int (zI wdq)] (PX7_packSamples ad A J G cq wdq) := by
  refine g_ofW (cc := cX7_packSamples) (maxL := 7) (ret := none) (by decide) rfl (Nat.le_of_ble_eq_true rfl) ?_
  intro pM eM sM mM aM bM methM cM H locs ls hx hb hr hts hown hlocks hml hE hG hl
  have hl : lv_has ls 7 [(0, .ref (ad 6)), (1, .ref (ad 1)), (2, .int (zI cq)), (3, .int (zI wdq))] := hl
  have hinX4 : ∀ w ∈ u_ws RX4 TX4 10, w ∈ wsX7_packSamples := by decide +kernel
  have hinX5 : ∀ w ∈ u_ws RX5 TX5 3, w ∈ wsX7_packSamples := by decide +kernel
  have hinX7 : ∀ w ∈ u_ws RX7 TX7 2, w ∈ wsX7_packSamples := by decide +kernel
  refine lv_iconst (v := nI 0) hx hb dX7_packSamples_0 (by decide) ?_
  refine lv_istore (lv' := [(4, .int (nI 0)), (0, .ref (ad 6)), (1, .ref (ad 1)), (2, .int (zI cq)), (3, .int (zI wdq))]) hx hb dX7_packSamples_1 hl (by decide) rfl (fun ls hl => ?_)
  have LLq3 : ∀ (fuel : Nat) (pq : Nat) (Jq : Nat → Nat → Int64) (hpq : pq ≤ n) (hfq : FrS (Jq 6 1) G cq wdq (2 * pq) (mSnd G cq wdq (2 * pq))) (hJq : ∀ k j, ¬ (k = 6 ∧ j = 1) → Jq k j = J k j) (_ : n - pq < fuel) (H : Heap) (locs : List Loc) (ls : Array Slot), gH D base sM ad (33 + 2 * n) (gw cy ad n A Jq) H locs → lv_has ls 7 [(4, .int (nI pq)), (0, .ref (ad 6)), (1, .ref (ad 1)), (2, .int (zI cq)), (3, .int (zI wdq))] → W pM l eM ({ frames := 2, cells := 0, slots := 0, locals := 42 } : Room) sM mM aM bM methM cM H locs 0 0 (MQ bM (gPost D cy base ad n (PX7_packSamples ad A J G cq wdq)) aM sM 0 0 (fun q => base ≤ q)) (F0 mM 3 ls []) := by
    intro fuel
    induction fuel with
    | zero => intro pq Jq hpq hfq hJq hms H locs ls hG hl; exact absurd hms (Nat.not_lt_zero _)
    | succ fuel ihq3 =>
      intro pq Jq hpq hfq hJq hms H locs ls hG hl
      refine lv_iload hx hb dX7_packSamples_3 (lv_at hl 0 rfl) ?_
      refine lv_aload_n hx hb dX7_packSamples_5 rfl (lv_at hl 2 rfl) ?_
      refine g_getN (C := RX5) (T := TX5) (NN := 3) (ci := 5) hx hb hts hinX5 hown hE hG (k := 1) (by omega) rfl rfl 1 (by decide) 2 rfl rfl (v := .int (A 1 1)) rfl dX7_packSamples_6 ?_
      refine g_top (y := nI n) (hct.1) ?_
      refine lv_icmp_ge (tgt := 104) hx hb dX7_packSamples_9 (by decide) (fun c9 => ?_) (fun c9 => ?_)
      · skip
        have c9 : n ≤ pq := (nI_leI (by omega) (by omega)).mp c9
        exact g_vret hx hb hr hlocks hG ⟨rfl, rfl, (by rw [show (G 28 0).toNat = pq from by omega]; exact hfq), hJq⟩ dX7_packSamples_104
      · skip
        have c9 : ¬ (n ≤ pq) := fun z9 => c9 ((nI_leI (by omega) (by omega)).mpr z9)
        have hTp := hT.2.2 pq (by omega)
        have hPp := hFs pq (by omega)
        have hhf := gHf_range (w := G 29 pq) (by omega) (by omega)
        have henr := gEnc_range (cv := G 30 pq) (w := G 29 pq) (by omega) (by omega) (by omega) (hpr pq (by omega))
        refine lv_aload_n hx hb dX7_packSamples_12 rfl (lv_at hl 2 rfl) ?_
        refine lv_iload hx hb dX7_packSamples_13 (lv_at hl 0 rfl) ?_
        refine g_callV (As := [.int (nI pq)]) (rest := []) (r := (RX5, TX5, 3)) ⟨hx, hb, hml, hown, hts⟩ hE hG (cX5_at_inC l D cy base ad n A Jq pq (by first | assumption | omega) (by first | assumption | omega)) (cwV 1 hts gX7_packSamples_X5_at rfl rfl rfl (by decide +kernel) ⟨Nat.le_of_ble_eq_true rfl, Nat.le_of_ble_eq_true rfl⟩) (by omega) rfl rfl rfl hl.1 rfl (Nat.le_of_ble_eq_true rfl) dX7_packSamples_15 ⟨Nat.zero_le _, Nat.zero_le _⟩ (fun v_ A15 J15 H locs hp hG => ?_)
        obtain ⟨rfl, rfl, rfl⟩ := hp
        refine W.eq (g2 := F0 mM 18 ls [.ref (ad (33 + 2 * pq))]) rfl ?_
        refine lv_astore (lv' := [(5, .ref (ad (33 + 2 * pq))), (4, .int (nI pq)), (0, .ref (ad 6)), (1, .ref (ad 1)), (2, .int (zI cq)), (3, .int (zI wdq))]) hx hb dX7_packSamples_18 hl (by decide) rfl (fun ls hl => ?_)
        refine lv_aload hx hb dX7_packSamples_20 (lv_at hl 0 rfl) ?_
        refine lv_ifnull hx hb dX7_packSamples_22 ?_
        refine lv_aload hx hb dX7_packSamples_25 (lv_at hl 0 rfl) ?_
        refine lv_iload_n hx hb dX7_packSamples_27 rfl (lv_at hl 4 rfl) ?_
        refine g_callV (As := [.int (zI cq)]) (rest := []) (r := (RX4, TX4, 10)) ⟨hx, hb, hml, hown, hts⟩ hE hG (cX4_isSentInC l D cy base ad n A Jq G pq cq (by first | assumption | omega) hPp.1 hTp (by first | assumption | omega)) (cwV 1 hts gX7_packSamples_X4_isSentIn rfl rfl rfl (by decide +kernel) ⟨Nat.le_of_ble_eq_true rfl, Nat.le_of_ble_eq_true rfl⟩) (by omega) (gw_pt cy ad n _ _ pq) rfl rfl hl.1 rfl (Nat.le_of_ble_eq_true rfl) dX7_packSamples_28 ⟨Nat.zero_le _, Nat.zero_le _⟩ (fun v_ A28 J28 H locs hp hG => ?_)
        rcases hp with ⟨rfl, rfl, rfl, hC_28⟩ | ⟨rfl, rfl, rfl, hC_28⟩
        · refine W.eq (g2 := F0 mM 31 ls [.int (nI 1)]) rfl ?_
          refine lv_if_ne (tgt := 37) hx hb dX7_packSamples_31 (by decide) (fun c31 => ?_) (fun c31 => ?_)
          · skip
            refine lv_iconst (v := nI 0) hx hb dX7_packSamples_37 (by decide) ?_
            refine lv_istore (lv' := [(6, .int (nI 0)), (5, .ref (ad (33 + 2 * pq))), (4, .int (nI pq)), (0, .ref (ad 6)), (1, .ref (ad 1)), (2, .int (zI cq)), (3, .int (zI wdq))]) hx hb dX7_packSamples_38 hl (by decide) rfl (fun ls hl => ?_)
            have LLq40 : ∀ (fuel : Nat) (sq : Nat) (Iq : Nat → Nat → Int64) (hsq : (sq : Int) ≤ G 32 pq) (hfs : FrS (Iq 6 1) G cq wdq (2 * pq + sq) (mSnd G cq wdq (2 * pq + sq))) (hJs : ∀ k j, ¬ (k = 6 ∧ j = 1) → Iq k j = J k j) (_ : 2 - sq < fuel) (H : Heap) (locs : List Loc) (ls : Array Slot), gH D base sM ad (33 + 2 * n) (gw cy ad n A Iq) H locs → lv_has ls 7 [(6, .int (nI sq)), (5, .ref (ad (33 + 2 * pq))), (4, .int (nI pq)), (0, .ref (ad 6)), (1, .ref (ad 1)), (2, .int (zI cq)), (3, .int (zI wdq))] → W pM l eM ({ frames := 2, cells := 0, slots := 0, locals := 42 } : Room) sM mM aM bM methM cM H locs 0 0 (MQ bM (gPost D cy base ad n (PX7_packSamples ad A J G cq wdq)) aM sM 0 0 (fun q => base ≤ q)) (F0 mM 40 ls []) := by
              intro fuel
              induction fuel with
              | zero => intro sq Iq hsq hfs hJs hms H locs ls hG hl; exact absurd hms (Nat.not_lt_zero _)
              | succ fuel ihq40 =>
                intro sq Iq hsq hfs hJs hms H locs ls hG hl
                refine lv_iload hx hb dX7_packSamples_40 (lv_at hl 0 rfl) ?_
                refine lv_aload hx hb dX7_packSamples_42 (lv_at hl 1 rfl) ?_
                refine g_callV (As := []) (rest := [.int (nI sq)]) (r := (RX4, TX4, 10)) ⟨hx, hb, hml, hown, hts⟩ hE hG (cX4_samplesInFrameC l D cy base ad n A Iq G pq (by first | assumption | omega) hPp.1 hTp) (cwV 0 hts gX7_packSamples_X4_samplesInFrame rfl rfl rfl (by decide +kernel) ⟨Nat.le_of_ble_eq_true rfl, Nat.le_of_ble_eq_true rfl⟩) (by omega) (gw_pt cy ad n _ _ pq) rfl rfl hl.1 rfl (Nat.le_of_ble_eq_true rfl) dX7_packSamples_44 ⟨Nat.zero_le _, Nat.zero_le _⟩ (fun v_ A44 J44 H locs hp hG => ?_)
                obtain ⟨rfl, rfl, rfl⟩ := hp
                refine W.eq (g2 := F0 mM 47 ls [.int (zI (G 32 pq)), .int (nI sq)]) rfl ?_
                refine lv_icmp_ge (tgt := 98) hx hb dX7_packSamples_47 (by decide) (fun c47 => ?_) (fun c47 => ?_)
                · skip
                  have c47 : (G 32 pq) ≤ ((sq : Nat) : Int) := (cmp_le (zI_toInt (by omega) (by omega)) (nI_toInt (by omega))).mp c47
                  have hfq1 : FrS (Iq 6 1) G cq wdq (2 * (pq + 1)) (mSnd G cq wdq (2 * (pq + 1))) := by
                    by_cases z9 : sq = 2
                    · subst z9; exact hfs
                    · have z8 : sq = 1 := by omega
                      subst z8
                      exact FrS_n (q := 2 * pq + 1) (fun z7 => by have z6 := z7.1; rw [show (2 * pq + 1) / 2 = pq from by omega, show (2 * pq + 1) % 2 = 1 from by omega] at z6; omega) hfs
                  have hJq1 := hJs
                  refine lv_iinc (v := nI (pq + 1)) (lv' := [(4, .int (nI (pq + 1))), (6, .int (nI sq)), (5, .ref (ad (33 + 2 * pq))), (0, .ref (ad 6)), (1, .ref (ad 1)), (2, .int (zI cq)), (3, .int (zI wdq))]) hx hb dX7_packSamples_98 hl (k := 2) rfl (by rw [show (Int32.ofInt 1 : Int32) = nI 1 from rfl, nI_add]) (by decide) rfl (fun ls hl => ?_)
                  refine lv_goto (tgt := 3) hx hb dX7_packSamples_101 (by decide) ?_
                  exact ihq3 (pq + 1) Iq (by omega) hfq1 hJq1 (by omega) _ _ _ hG (lv_sub hl [0, 3, 4, 5, 6] rfl)
                · skip
                  have c47 : ¬ ((G 32 pq) ≤ ((sq : Nat) : Int)) := fun z9 => c47 ((cmp_le (zI_toInt (by omega) (by omega)) (nI_toInt (by omega))).mpr z9)
                  have hat : mAt G pq ((sq : Nat) : Int) = 16 + G 34 pq + 24 * ((sq : Nat) : Int) := rfl
                  have hq2 : (2 * pq + sq) / 2 = pq := by omega
                  have hqm : (2 * pq + sq) % 2 = sq := by omega
                  have hsa : sAt G (2 * pq + sq) = mAt G pq ((sq : Nat) : Int) := by unfold sAt mAt; rw [hq2, hqm]
                  refine lv_aload hx hb dX7_packSamples_50 (lv_at hl 1 rfl) ?_
                  refine lv_iload hx hb dX7_packSamples_52 (lv_at hl 0 rfl) ?_
                  refine g_callV (As := [.int (nI sq)]) (rest := []) (r := (RX4, TX4, 10)) ⟨hx, hb, hml, hown, hts⟩ hE hG (cX4_firstBitC l D cy base ad n A Iq G pq ((sq : Nat) : Int) (by first | assumption | omega) hPp.1 hTp (by first | assumption | omega)) (cwV 1 hts gX7_packSamples_X4_firstBit rfl rfl rfl (by decide +kernel) ⟨Nat.le_of_ble_eq_true rfl, Nat.le_of_ble_eq_true rfl⟩) (by omega) (gw_pt cy ad n _ _ pq) rfl rfl hl.1 rfl (Nat.le_of_ble_eq_true rfl) dX7_packSamples_54 ⟨Nat.zero_le _, Nat.zero_le _⟩ (fun v_ A54 J54 H locs hp hG => ?_)
                  obtain ⟨rfl, rfl, rfl⟩ := hp
                  refine W.eq (g2 := F0 mM 57 ls [.int (zI (mAt G pq ((sq : Nat) : Int)))]) rfl ?_
                  refine lv_bipush (v := nI 8) hx hb dX7_packSamples_57 (by decide) ?_
                  refine lv_idiv hx hb dX7_packSamples_59 (by decide) ?_
                  refine g_top (y := zI (mAt G pq ((sq : Nat) : Int) / 8)) ((by rw [← zI_n]; exact zI_div (by omega) (by omega) (by omega) (by omega))) ?_
                  refine lv_iload_n hx hb dX7_packSamples_60 rfl (lv_at hl 6 rfl) ?_
                  refine lv_icmp_ne (tgt := 92) hx hb dX7_packSamples_61 (by decide) (fun c61 => ?_) (fun c61 => ?_)
                  · skip
                    have c61 : ¬ ((mAt G pq ((sq : Nat) : Int) / 8) = wdq) := fun z9 => c61 ((cmp_eq (zI_toInt (by omega) (by omega)) (zI_toInt (by omega) (by omega))).mpr z9)
                    have hfs1 := FrS_n (q := 2 * pq + sq) (fun z9 => c61 (by have z8 := z9.2.2; have z7 : sAt G (2 * pq + sq) / 8 = wdq := z8; rw [hsa] at z7; exact z7)) hfs
                    have hJs1 := hJs
                    refine lv_iinc (v := nI (sq + 1)) (lv' := [(6, .int (nI (sq + 1))), (5, .ref (ad (33 + 2 * pq))), (4, .int (nI pq)), (0, .ref (ad 6)), (1, .ref (ad 1)), (2, .int (zI cq)), (3, .int (zI wdq))]) hx hb dX7_packSamples_92 hl (k := 0) rfl (by rw [show (Int32.ofInt 1 : Int32) = nI 1 from rfl, nI_add]) (by decide) rfl (fun ls hl => ?_)
                    refine lv_goto (tgt := 40) hx hb dX7_packSamples_95 (by decide) ?_
                    exact ihq40 (sq + 1) Iq (by omega) hfs1 hJs1 (by omega) _ _ _ hG (lv_sub hl [0, 1, 2, 3, 4, 5, 6] rfl)
                  · skip
                    have c61 : (mAt G pq ((sq : Nat) : Int) / 8) = wdq := (cmp_eq (zI_toInt (by omega) (by omega)) (zI_toInt (by omega) (by omega))).mp c61
                    refine lv_aload_n hx hb dX7_packSamples_64 rfl (lv_at hl 3 rfl) ?_
                    refine lv_dup hx hb dX7_packSamples_65 rfl ?_
                    refine g_get (C := RX7) (T := TX7) (NN := 2) (ci := 7) hx hb hts hinX7 hown hE hG (k := 6) (by omega) rfl rfl 1 (by decide) (hts (.fieldLink RX7 16 "Commutator$Sender" "frame" "J") (List.mem_of_getElem? (i := 1) rfl)) rfl (v := .long (Iq 6 1)) rfl dX7_packSamples_66 ?_
                    refine lv_aload hx hb dX7_packSamples_69 (lv_at hl 1 rfl) ?_
                    refine lv_aload hx hb dX7_packSamples_71 (lv_at hl 1 rfl) ?_
                    refine g_getN (C := RX4) (T := TX4) (NN := 10) (ci := 4) hx hb hts hinX4 hown hE hG (k := 33 + 2 * pq) (by omega) (gw_pt cy ad n _ _ pq) rfl 6 (by decide) 32 rfl rfl (v := .int (A (33 + 2 * pq) 6)) rfl dX7_packSamples_73 ?_
                    refine g_top (y := zI (G 35 pq)) (hPp.2.1) ?_
                    refine g_callV (As := [.int (zI (G 35 pq))]) (rest := [.long (Iq 6 1), .ref (ad 6)]) (r := (RX4, TX4, 10)) ⟨hx, hb, hml, hown, hts⟩ hE hG (cX4_encodeC l D cy base ad n A Iq G pq (G 35 pq) (by first | assumption | omega) hPp.1 hTp (hpr pq (by omega))) (cwV 1 hts gX7_packSamples_X4_encode rfl rfl rfl (by decide +kernel) ⟨Nat.le_of_ble_eq_true rfl, Nat.le_of_ble_eq_true rfl⟩) (by omega) (gw_pt cy ad n _ _ pq) rfl rfl hl.1 rfl (Nat.le_of_ble_eq_true rfl) dX7_packSamples_76 ⟨Nat.zero_le _, Nat.zero_le _⟩ (fun v_ A76 J76 H locs hp hG => ?_)
                    obtain ⟨rfl, rfl, rfl⟩ := hp
                    refine W.eq (g2 := F0 mM 79 ls [.int (zI (gEnc (G 30 pq) (G 29 pq) (G 35 pq))), .long (Iq 6 1), .ref (ad 6)]) rfl ?_
                    refine lv_i2l (v := zL (gEnc (G 30 pq) (G 29 pq) (G 35 pq))) hx hb dX7_packSamples_79 (zL_i2l (by omega) (by omega)) ?_
                    refine lv_aload hx hb dX7_packSamples_80 (lv_at hl 1 rfl) ?_
                    refine lv_iload hx hb dX7_packSamples_82 (lv_at hl 0 rfl) ?_
                    refine g_callV (As := [.int (nI sq)]) (rest := [.long (zL (gEnc (G 30 pq) (G 29 pq) (G 35 pq))), .long (Iq 6 1), .ref (ad 6)]) (r := (RX4, TX4, 10)) ⟨hx, hb, hml, hown, hts⟩ hE hG (cX4_shiftC l D cy base ad n A Iq G pq ((sq : Nat) : Int) (by first | assumption | omega) hPp.1 hTp (by first | assumption | omega)) (cwV 1 hts gX7_packSamples_X4_shift rfl rfl rfl (by decide +kernel) ⟨Nat.le_of_ble_eq_true rfl, Nat.le_of_ble_eq_true rfl⟩) (by omega) (gw_pt cy ad n _ _ pq) rfl rfl hl.1 rfl (Nat.le_of_ble_eq_true rfl) dX7_packSamples_84 ⟨Nat.zero_le _, Nat.zero_le _⟩ (fun v_ A84 J84 H locs hp hG => ?_)
                    obtain ⟨rfl, rfl, rfl⟩ := hp
                    refine W.eq (g2 := F0 mM 87 ls [.int (zI (64 - mAt G pq ((sq : Nat) : Int) - G 29 pq)), .long (zL (gEnc (G 30 pq) (G 29 pq) (G 35 pq))), .long (Iq 6 1), .ref (ad 6)]) rfl ?_
                    refine lv_lshl (v := gshl (zL (gEnc (G 30 pq) (G 29 pq) (G 35 pq))) (zI (64 - mAt G pq ((sq : Nat) : Int) - G 29 pq))) hx hb dX7_packSamples_87 rfl ?_
                    refine lv_lor hx hb dX7_packSamples_88 ?_
                    refine g_putl (C := RX7) (T := TX7) (NN := 2) (ci := 7) hx hb hts hinX7 tyX7 tyX7_ok nmX7 hown hE hG (k := 6) (by omega) rfl rfl 1 (by decide) (hts (.fieldLink RX7 16 "Commutator$Sender" "frame" "J") (List.mem_of_getElem? (i := 1) rfl)) rfl rfl (v := (Iq 6 1) ||| (gshl (zL (gEnc (G 30 pq) (G 29 pq) (G 35 pq))) (zI (64 - mAt G pq ((sq : Nat) : Int) - G 29 pq)))) (by decide +kernel) (Nat.le_of_ble_eq_true rfl) rfl dX7_packSamples_89 (fun H locs hG => ?_)
                    have hfs1 := FrS_y (q := 2 * pq + sq) (en := gEnc (G 30 pq) (G 29 pq) (G 35 pq)) (sh := 64 - mAt G pq ((sq : Nat) : Int) - G 29 pq) ⟨by rw [hqm, hq2]; omega, by rw [hq2]; exact hC_28, by have z7 : sAt G (2 * pq + sq) / 8 = wdq := (by rw [hsa]; exact c61); exact z7⟩ (by omega) hfs (by rw [hq2]) henr.1 (by rw [hq2, ← gHf_pow (by omega) (by omega)]; exact henr.2) (by rw [hq2]; omega) (by rw [hq2]; omega) (by rw [hq2, hsa]) (by rw [hsa]; omega) (by omega)
                    have hJs1 : ∀ k j, ¬ (k = 6 ∧ j = 1) → (gu Iq 6 1 ((Iq 6 1) ||| (gshl (zL (gEnc (G 30 pq) (G 29 pq) (G 35 pq))) (zI (64 - mAt G pq ((sq : Nat) : Int) - G 29 pq))))) k j = J k j := fun k j h9 => by rw [gu_at, if_neg h9]; exact hJs k j h9
                    refine lv_iinc (v := nI (sq + 1)) (lv' := [(6, .int (nI (sq + 1))), (5, .ref (ad (33 + 2 * pq))), (4, .int (nI pq)), (0, .ref (ad 6)), (1, .ref (ad 1)), (2, .int (zI cq)), (3, .int (zI wdq))]) hx hb dX7_packSamples_92 hl (k := 0) rfl (by rw [show (Int32.ofInt 1 : Int32) = nI 1 from rfl, nI_add]) (by decide) rfl (fun ls hl => ?_)
                    refine lv_goto (tgt := 40) hx hb dX7_packSamples_95 (by decide) ?_
                    exact ihq40 (sq + 1) (gu Iq 6 1 ((Iq 6 1) ||| (gshl (zL (gEnc (G 30 pq) (G 29 pq) (G 35 pq))) (zI (64 - mAt G pq ((sq : Nat) : Int) - G 29 pq))))) (by omega) hfs1 hJs1 (by omega) _ _ _ hG (lv_sub hl [0, 1, 2, 3, 4, 5, 6] rfl)
            exact LLq40 _ 0 Jq (by omega) hfq hJq (Nat.lt_succ_self _) _ _ _ hG (lv_sub hl [0, 1, 2, 3, 4, 5, 6] rfl)
          · skip
            exact absurd c31 (by decide)
        · refine W.eq (g2 := F0 mM 31 ls [.int (nI 0)]) rfl ?_
          have hfq1 : FrS (Jq 6 1) G cq wdq (2 * (pq + 1)) (mSnd G cq wdq (2 * (pq + 1))) := FrS_n (q := 2 * pq + 1) (fun z9 => hC_28 (by have z8 := z9.2.1; rw [show (2 * pq + 1) / 2 = pq from by omega] at z8; exact z8)) (FrS_n (q := 2 * pq) (fun z9 => hC_28 (by have z8 := z9.2.1; rw [show (2 * pq) / 2 = pq from by omega] at z8; exact z8)) hfq)
          have hJq1 := hJq
          refine lv_if_ne (tgt := 37) hx hb dX7_packSamples_31 (by decide) (fun c31 => ?_) (fun c31 => ?_)
          · skip
            exact absurd c31 (by decide)
          · skip
            refine lv_goto (tgt := 98) hx hb dX7_packSamples_34 (by decide) ?_
            refine lv_iinc (v := nI (pq + 1)) (lv' := [(4, .int (nI (pq + 1))), (5, .ref (ad (33 + 2 * pq))), (0, .ref (ad 6)), (1, .ref (ad 1)), (2, .int (zI cq)), (3, .int (zI wdq))]) hx hb dX7_packSamples_98 hl (k := 1) rfl (by rw [show (Int32.ofInt 1 : Int32) = nI 1 from rfl, nI_add]) (by decide) rfl (fun ls hl => ?_)
            refine lv_goto (tgt := 3) hx hb dX7_packSamples_101 (by decide) ?_
            exact ihq3 (pq + 1) Jq (by omega) hfq1 hJq1 (by omega) _ _ _ hG (lv_sub hl [0, 2, 3, 4, 5] rfl)
  exact LLq3 _ 0 J (by omega) (by rw [show 2 * 0 = 0 from rfl, show mSnd G cq wdq 0 = G 36 from funext (mSnd_z G cq wdq)]; exact hfr) (fun _ _ _ => rfl) (Nat.lt_succ_self _) _ _ _ hG (lv_sub hl [0, 1, 2, 3, 4] rfl)
