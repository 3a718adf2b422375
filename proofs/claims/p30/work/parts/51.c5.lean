abbrev PX0_noteLost (ad : Nat → Nat) (A : Nat → Nat → Int32) (J : Nat → Nat → Int64) (G : Nat → Nat → Int) (gq : Nat) : Option Value → (Nat → Nat → Int32) → (Nat → Nat → Int64) → Prop := fun v_ A1 J1 => (v_ = none ∧ J = J1 ∧ (∀ i : Nat, (i : Int) < G 28 0 → PtF A1 (mMissI G gq 0) i) ∧ (PsOnly (gu A 9 1 (zI (G 28 22 + ((gq : Nat) : Int)))) A1))
set_option maxHeartbeats 4000000 in
set_option maxRecDepth 100000 in
theorem cX0_noteLostC (l : Launch) (D : va_G) (cy : Nat → ClassId) (base : Nat) (ad : Nat → Nat) (n : Nat) (A : Nat → Nat → Int32) (J : Nat → Nat → Int64) (G : Nat → Nat → Int) (gq : Nat) (hct : A 1 1 = nI n ∧ n ≤ 12) (hn : G 28 0 = (n : Int)) (hT : TsOk G) (hFs : ∀ i : Nat, i < n → PtF A G i) (hgq : gq ≤ 255) (hcq : A 9 3 = zI (G 28 19) ∧ 0 ≤ G 28 19 ∧ G 28 19 < 256) (hlo : A 9 1 = zI (G 28 22)) : gMet l yX0_noteLost wsX0_noteLost ({ frames := 2, cells := 0, slots := 0, locals := 40 } : Room) D cy base ad n A J [.ref (ad 9), .int (nI gq), .ref (ad 1)] (PX0_noteLost ad A J G gq) := by
  refine g_ofW (cc := cX0_noteLost) (maxL := 6) (ret := none) (by decide) rfl (Nat.le_of_ble_eq_true rfl) ?_
  intro pM eM sM mM aM bM methM cM H locs ls hx hb hr hts hown hlocks hml hE hG hl
  have hl : lv_has ls 6 [(0, .ref (ad 9)), (1, .int (nI gq)), (2, .ref (ad 1))] := hl
  have hinX0 : ∀ w ∈ u_ws RX0 TX0 5, w ∈ wsX0_noteLost := by decide +kernel
  have hinX4 : ∀ w ∈ u_ws RX4 TX4 10, w ∈ wsX0_noteLost := by decide +kernel
  have hinX5 : ∀ w ∈ u_ws RX5 TX5 3, w ∈ wsX0_noteLost := by decide +kernel
  refine lv_aload_n hx hb dX0_noteLost_0 rfl (lv_at hl 0 rfl) ?_
  refine lv_dup hx hb dX0_noteLost_1 rfl ?_
  refine g_get (C := RX0) (T := TX0) (NN := 5) (ci := 0) hx hb hts hinX0 hown hE hG (k := 9) (by omega) rfl rfl 1 (by decide) (hts (.fieldLink RX0 32 "Commutator$Decoder" "lostFrames" "I") (List.mem_of_getElem? (i := 1) rfl)) rfl (v := .int (A 9 1)) rfl dX0_noteLost_2 ?_
  refine g_top (y := zI (G 28 22)) (hlo) ?_
  refine lv_iload_n hx hb dX0_noteLost_5 rfl (lv_at hl 1 rfl) ?_
  refine lv_iadd hx hb dX0_noteLost_6 ?_
  refine g_top (y := zI ((G 28 22) + ((gq : Nat) : Int))) (zI_add_in _ _) ?_
  refine g_puti (C := RX0) (T := TX0) (NN := 5) (ci := 0) hx hb hts hinX0 tyX0 tyX0_ok nmX0 hown hE hG (k := 9) (by omega) rfl rfl 1 (by decide) (hts (.fieldLink RX0 32 "Commutator$Decoder" "lostFrames" "I") (List.mem_of_getElem? (i := 1) rfl)) rfl rfl (ty := .int) (v := zI ((G 28 22) + ((gq : Nat) : Int))) (by decide +kernel) rfl rfl (Nat.le_of_ble_eq_true rfl) rfl dX0_noteLost_7 (fun H locs hG => ?_)
  refine lv_iconst (v := nI 1) hx hb dX0_noteLost_10 (by decide) ?_
  refine lv_istore_n (lv' := [(3, .int (nI 1)), (0, .ref (ad 9)), (1, .int (nI gq)), (2, .ref (ad 1))]) hx hb dX0_noteLost_11 rfl hl (by decide) rfl (fun ls hl => ?_)
  have LLq12 : ∀ (fuel : Nat) (tq : Nat) (Aq : Nat → Nat → Int32) (htq : tq ≤ gq) (hFq : ∀ i : Nat, i < n → PtF Aq (mMissI G tq 0) i) (hO : PsOnly (gu A 9 1 (zI (G 28 22 + ((gq : Nat) : Int)))) Aq) (_ : gq - tq < fuel) (H : Heap) (locs : List Loc) (ls : Array Slot), gH D base sM ad (33 + 2 * n) (gw cy ad n Aq J) H locs → lv_has ls 6 [(3, .int (nI (tq + 1))), (0, .ref (ad 9)), (1, .int (nI gq)), (2, .ref (ad 1))] → W pM l eM ({ frames := 2, cells := 0, slots := 0, locals := 40 } : Room) sM mM aM bM methM cM H locs 0 0 (MQ bM (gPost D cy base ad n (PX0_noteLost ad A J G gq)) aM sM 0 0 (fun q => base ≤ q)) (F0 mM 12 ls []) := by
    intro fuel
    induction fuel with
    | zero => intro tq Aq htq hFq hO hms H locs ls hG hl; exact absurd hms (Nat.not_lt_zero _)
    | succ fuel ihq12 =>
      intro tq Aq htq hFq hO hms H locs ls hG hl
      refine lv_iload_n hx hb dX0_noteLost_12 rfl (lv_at hl 0 rfl) ?_
      refine lv_iload_n hx hb dX0_noteLost_13 rfl (lv_at hl 2 rfl) ?_
      refine lv_icmp_gt (tgt := 77) hx hb dX0_noteLost_14 (by decide) (fun c14 => ?_) (fun c14 => ?_)
      · skip
        have c14 : gq < (tq + 1) := (nI_ltI (by omega) (by omega)).mp c14
        exact g_vret hx hb hr hlocks hG ⟨rfl, rfl, (fun i hi => by rw [show gq = tq from by omega]; exact hFq i (by omega)), hO⟩ dX0_noteLost_77
      · skip
        have c14 : ¬ (gq < (tq + 1)) := fun z9 => c14 ((nI_ltI (by omega) (by omega)).mpr z9)
        refine lv_iconst (v := nI 0) hx hb dX0_noteLost_17 (by decide) ?_
        refine lv_istore (lv' := [(4, .int (nI 0)), (3, .int (nI (tq + 1))), (0, .ref (ad 9)), (1, .int (nI gq)), (2, .ref (ad 1))]) hx hb dX0_noteLost_18 hl (by decide) rfl (fun ls hl => ?_)
        have LLq20 : ∀ (fuel : Nat) (pq : Nat) (Bq : Nat → Nat → Int32) (hpq : pq ≤ n) (hFp : ∀ i : Nat, i < n → PtF Bq (mMissI G tq pq) i) (hOp : PsOnly (gu A 9 1 (zI (G 28 22 + ((gq : Nat) : Int)))) Bq) (_ : n - pq < fuel) (H : Heap) (locs : List Loc) (ls : Array Slot), gH D base sM ad (33 + 2 * n) (gw cy ad n Bq J) H locs → lv_has ls 6 [(4, .int (nI pq)), (3, .int (nI (tq + 1))), (0, .ref (ad 9)), (1, .int (nI gq)), (2, .ref (ad 1))] → W pM l eM ({ frames := 2, cells := 0, slots := 0, locals := 40 } : Room) sM mM aM bM methM cM H locs 0 0 (MQ bM (gPost D cy base ad n (PX0_noteLost ad A J G gq)) aM sM 0 0 (fun q => base ≤ q)) (F0 mM 20 ls []) := by
          intro fuel
          induction fuel with
          | zero => intro pq Bq hpq hFp hOp hms H locs ls hG hl; exact absurd hms (Nat.not_lt_zero _)
          | succ fuel ihq20 =>
            intro pq Bq hpq hFp hOp hms H locs ls hG hl
            refine lv_iload hx hb dX0_noteLost_20 (lv_at hl 0 rfl) ?_
            refine lv_aload_n hx hb dX0_noteLost_22 rfl (lv_at hl 4 rfl) ?_
            refine g_getN (C := RX5) (T := TX5) (NN := 3) (ci := 5) hx hb hts hinX5 hown hE hG (k := 1) (by omega) rfl rfl 1 (by decide) 3 rfl rfl (v := .int (Bq 1 1)) rfl dX0_noteLost_23 ?_
            refine g_top (y := nI n) ((congrFun (hOp 1 (by omega)) 1).trans hct.1) ?_
            refine lv_icmp_ge (tgt := 71) hx hb dX0_noteLost_26 (by decide) (fun c26 => ?_) (fun c26 => ?_)
            · skip
              have c26 : n ≤ pq := (nI_leI (by omega) (by omega)).mp c26
              have hFq1 : ∀ i : Nat, i < n → PtF Bq (mMissI G (tq + 1) 0) i := Miss_e hn (fun i hi => by rw [show n = pq from by omega]; exact hFp i hi)
              refine lv_iinc (v := nI (tq + 1 + 1)) (lv' := [(3, .int (nI (tq + 1 + 1))), (4, .int (nI pq)), (0, .ref (ad 9)), (1, .int (nI gq)), (2, .ref (ad 1))]) hx hb dX0_noteLost_71 hl (k := 1) rfl (by rw [show (Int32.ofInt 1 : Int32) = nI 1 from rfl, nI_add]) (by decide) rfl (fun ls hl => ?_)
              refine lv_goto (tgt := 12) hx hb dX0_noteLost_74 (by decide) ?_
              exact ihq12 (tq + 1) Bq (by omega) hFq1 hOp (by omega) _ _ _ hG (lv_sub hl [0, 2, 3, 4] rfl)
            · skip
              have c26 : ¬ (n ≤ pq) := fun z9 => c26 ((nI_leI (by omega) (by omega)).mpr z9)
              have hTp := hT.2.2 pq (by omega)
              refine lv_aload_n hx hb dX0_noteLost_29 rfl (lv_at hl 4 rfl) ?_
              refine lv_iload hx hb dX0_noteLost_30 (lv_at hl 0 rfl) ?_
              refine g_callV (As := [.int (nI pq)]) (rest := []) (r := (RX5, TX5, 3)) ⟨hx, hb, hml, hown, hts⟩ hE hG (cX5_at_inC l D cy base ad n Bq J pq ⟨(congrFun (hOp 1 (by omega)) 1).trans hct.1, hct.2⟩ (by first | assumption | omega)) (cwV 1 hts gX0_noteLost_X5_at rfl rfl rfl (by decide +kernel) ⟨Nat.le_of_ble_eq_true rfl, Nat.le_of_ble_eq_true rfl⟩) (by omega) rfl rfl rfl hl.1 rfl (Nat.le_of_ble_eq_true rfl) dX0_noteLost_32 ⟨Nat.zero_le _, Nat.zero_le _⟩ (fun v_ A32 J32 H locs hp hG => ?_)
              obtain ⟨rfl, rfl, rfl⟩ := hp
              refine W.eq (g2 := F0 mM 35 ls [.ref (ad (33 + 2 * pq))]) rfl ?_
              refine lv_astore (lv' := [(5, .ref (ad (33 + 2 * pq))), (4, .int (nI pq)), (3, .int (nI (tq + 1))), (0, .ref (ad 9)), (1, .int (nI gq)), (2, .ref (ad 1))]) hx hb dX0_noteLost_35 hl (by decide) rfl (fun ls hl => ?_)
              refine lv_aload hx hb dX0_noteLost_37 (lv_at hl 0 rfl) ?_
              refine lv_ifnull hx hb dX0_noteLost_39 ?_
              refine lv_aload hx hb dX0_noteLost_42 (lv_at hl 0 rfl) ?_
              refine lv_aload_n hx hb dX0_noteLost_44 rfl (lv_at hl 3 rfl) ?_
              refine g_get (C := RX0) (T := TX0) (NN := 5) (ci := 0) hx hb hts hinX0 hown hE hG (k := 9) (by omega) rfl rfl 3 (by decide) (hts (.fieldLink RX0 18 "Commutator$Decoder" "latestCounter" "I") (List.mem_of_getElem? (i := 2) rfl)) rfl (v := .int (Bq 9 3)) rfl dX0_noteLost_45 ?_
              refine g_top (y := zI (G 28 19)) ((congrFun (hOp 9 (by omega)) 3).trans hcq.1) ?_
              refine lv_iload_n hx hb dX0_noteLost_48 rfl (lv_at hl 2 rfl) ?_
              refine lv_iadd hx hb dX0_noteLost_49 ?_
              refine g_top (y := zI ((G 28 19) + ((tq + 1 : Nat) : Int))) (zI_add_in _ _) ?_
              refine lv_sipush (v := nI 255) hx hb dX0_noteLost_50 (by decide) ?_
              refine lv_iand hx hb dX0_noteLost_53 ?_
              refine g_top (y := zI ((G 28 19 + ((tq + 1 : Nat) : Int)) % 256)) (z_and255 _) ?_
              refine g_callV (As := [.int (zI ((G 28 19 + ((tq + 1 : Nat) : Int)) % 256))]) (rest := []) (r := (RX4, TX4, 10)) ⟨hx, hb, hml, hown, hts⟩ hE hG (cX4_isSentInC l D cy base ad n Bq J G pq ((G 28 19 + ((tq + 1 : Nat) : Int)) % 256) (by first | assumption | omega) (PtR_miss (hFp pq (by omega)).1) hTp (by first | assumption | omega)) (cwV 1 hts gX0_noteLost_X4_isSentIn rfl rfl rfl (by decide +kernel) ⟨Nat.le_of_ble_eq_true rfl, Nat.le_of_ble_eq_true rfl⟩) (by omega) (gw_pt cy ad n _ _ pq) rfl rfl hl.1 rfl (Nat.le_of_ble_eq_true rfl) dX0_noteLost_54 ⟨Nat.zero_le _, Nat.zero_le _⟩ (fun v_ A54 J54 H locs hp hG => ?_)
              rcases hp with ⟨rfl, rfl, rfl, hC_54⟩ | ⟨rfl, rfl, rfl, hC_54⟩
              · refine W.eq (g2 := F0 mM 57 ls [.int (nI 1)]) rfl ?_
                refine lv_if_eq (tgt := 65) hx hb dX0_noteLost_57 (by decide) (fun c57 => ?_) (fun c57 => ?_)
                · skip
                  exact absurd c57 (by decide)
                · skip
                  refine lv_aload hx hb dX0_noteLost_60 (lv_at hl 0 rfl) ?_
                  refine g_callV (As := []) (rest := []) (r := (RX4, TX4, 10)) ⟨hx, hb, hml, hown, hts⟩ hE hG (cX4_noteMissingC l D cy base ad n Bq J G pq (mMi G pq tq) (by first | assumption | omega) (PtR_miss (hFp pq (by omega)).1) hTp ((hFp pq (by omega)).2.2.2.1.trans (congrArg zI (mMissI_42 (by omega))))) (cwV 0 hts gX0_noteLost_X4_noteMissing rfl rfl rfl (by decide +kernel) ⟨Nat.le_of_ble_eq_true rfl, Nat.le_of_ble_eq_true rfl⟩) (by omega) (gw_pt cy ad n _ _ pq) rfl rfl hl.1 rfl (Nat.le_of_ble_eq_true rfl) dX0_noteLost_62 ⟨Nat.zero_le _, Nat.zero_le _⟩ (fun v_ A62 J62 H locs hp hG => ?_)
                  obtain ⟨rfl, rfl, rfl⟩ := hp
                  refine W.eq (g2 := F0 mM 65 ls []) rfl ?_
                  have hFp1 := Miss_y hn (by omega) hFp hC_54
                  have hOp1 : PsOnly (gu A 9 1 (zI (G 28 22 + ((gq : Nat) : Int)))) (gu Bq (33 + 2 * pq) 9 (zI (mMi G pq tq + G 32 pq))) := fun k hk => by rw [gu_ne _ _ _ (by omega)]; exact hOp k hk
                  refine lv_iinc (v := nI (pq + 1)) (lv' := [(4, .int (nI (pq + 1))), (5, .ref (ad (33 + 2 * pq))), (3, .int (nI (tq + 1))), (0, .ref (ad 9)), (1, .int (nI gq)), (2, .ref (ad 1))]) hx hb dX0_noteLost_65 hl (k := 1) rfl (by rw [show (Int32.ofInt 1 : Int32) = nI 1 from rfl, nI_add]) (by decide) rfl (fun ls hl => ?_)
                  refine lv_goto (tgt := 20) hx hb dX0_noteLost_68 (by decide) ?_
                  exact ihq20 (pq + 1) (gu Bq (33 + 2 * pq) 9 (zI ((mMi G pq tq) + G 32 pq))) (by omega) hFp1 hOp1 (by omega) _ _ _ hG (lv_sub hl [0, 2, 3, 4, 5] rfl)
              · refine W.eq (g2 := F0 mM 57 ls [.int (nI 0)]) rfl ?_
                have hFp1 := Miss_n hn (by omega) hFp hC_54
                have hOp1 := hOp
                refine lv_if_eq (tgt := 65) hx hb dX0_noteLost_57 (by decide) (fun c57 => ?_) (fun c57 => ?_)
                · skip
                  refine lv_iinc (v := nI (pq + 1)) (lv' := [(4, .int (nI (pq + 1))), (5, .ref (ad (33 + 2 * pq))), (3, .int (nI (tq + 1))), (0, .ref (ad 9)), (1, .int (nI gq)), (2, .ref (ad 1))]) hx hb dX0_noteLost_65 hl (k := 1) rfl (by rw [show (Int32.ofInt 1 : Int32) = nI 1 from rfl, nI_add]) (by decide) rfl (fun ls hl => ?_)
                  refine lv_goto (tgt := 20) hx hb dX0_noteLost_68 (by decide) ?_
                  exact ihq20 (pq + 1) Bq (by omega) hFp1 hOp1 (by omega) _ _ _ hG (lv_sub hl [0, 2, 3, 4, 5] rfl)
                · skip
                  exact absurd c57 (by decide)
        exact LLq20 _ 0 Aq (by omega) hFq hO (Nat.lt_succ_self _) _ _ _ hG (lv_sub hl [0, 1, 2, 3, 4] rfl)
  exact LLq12 _ 0 (gu A 9 1 (zI ((G 28 22) + ((gq : Nat) : Int)))) (by omega) (Miss_0 (fun i hi => (hFs i hi).to (by rw [gu_ne _ _ _ (by omega)]) (by rw [gu_ne _ _ _ (by omega)]) (fun _ _ _ _ _ _ => rfl))) PsOnly.rf (Nat.lt_succ_self _) _ _ _ hG (lv_sub hl [0, 1, 2, 3] rfl)

abbrev PX0_decode (ad : Nat → Nat) (A : Nat → Nat → Int32) (J : Nat → Nat → Int64) (G : Nat → Nat → Int) (Fq : Int64) : Option Value → (Nat → Nat → Int32) → (Nat → Nat → Int64) → Prop := fun v_ A1 J1 => (v_ = none ∧ J = J1 ∧ (CDe A1 (mDecT G)) ∧ (∀ i : Nat, (i : Int) < G 28 0 → PtF A1 (mDecT G) i) ∧ (∀ k, k < 33 → k ≠ 9 → A1 k = A k))
set_option maxHeartbeats 4000000 in
set_option maxRecDepth 100000 in
theorem cX0_decodeC (l : Launch) (D : va_G) (cy : Nat → ClassId) (base : Nat) (ad : Nat → Nat) (n : Nat) (A : Nat → Nat → Int32) (J : Nat → Nat → Int64) (G : Nat → Nat → Int) (Fq : Int64) (hct : A 1 1 = nI n ∧ n ≤ 12) (hn : G 28 0 = (n : Int)) (hT : TsOk G) (hFs : ∀ i : Nat, i < n → PtF A G i) (hde : CDe A G) (hok : mRcvOk G) (hFr : FrR Fq G (G 28 15 + 63)) : gMet l yX0_decode wsX0_decode ({ frames := 4, cells := 0, slots := 0, locals := 92 } : Room) D cy base ad n A J [.ref (ad 9), .long Fq, .ref (ad 1)] (PX0_decode ad A J G Fq) := by
  refine g_ofW (cc := cX0_decode) (maxL := 6) (ret := none) (by decide) rfl (Nat.le_of_ble_eq_true rfl) ?_
  intro pM eM sM mM aM bM methM cM H locs ls hx hb hr hts hown hlocks hml hE hG hl
  have hl : lv_has ls 6 [(0, .ref (ad 9)), (1, .long Fq), (3, .ref (ad 1))] := hl
  have hinX0 : ∀ w ∈ u_ws RX0 TX0 5, w ∈ wsX0_decode := by decide +kernel
  have hinX4 : ∀ w ∈ u_ws RX4 TX4 10, w ∈ wsX0_decode := by decide +kernel
  have hinX5 : ∀ w ∈ u_ws RX5 TX5 3, w ∈ wsX0_decode := by decide +kernel
  have hinX6 : ∀ w ∈ u_ws RX6 TX6 3, w ∈ wsX0_decode := by decide +kernel
  obtain ⟨hokT, hokP, hok12, hokS, hokN, hokA⟩ := hok
  obtain ⟨hN16, hN17, hN18, hNc, hN21, hN19, hN20, hN22⟩ := hokN
  have hmk := mK_range hokP
  have hmf := mFar_range (G := G)
  refine lv_lload_n hx hb dX0_decode_0 rfl (lv_at hl 1 rfl) ?_
  refine lv_bipush (v := nI 48) hx hb dX0_decode_1 (by decide) ?_
  refine lv_lushr (v := gushr Fq (nI 48)) hx hb dX0_decode_3 rfl ?_
  refine lv_l2i (v := (gushr Fq (nI 48)).toInt32) hx hb dX0_decode_4 rfl ?_
  refine lv_sipush (v := nI 255) hx hb dX0_decode_5 (by decide) ?_
  refine lv_iand hx hb dX0_decode_8 ?_
  refine g_top (y := zI (mK G)) ((rd_byte hokP hFr (by omega)).trans (congrArg zI (by unfold mK; congr 1; omega))) ?_
  refine lv_istore (lv' := [(4, .int (zI (mK G))), (0, .ref (ad 9)), (1, .long Fq), (3, .ref (ad 1))]) hx hb dX0_decode_9 hl (by decide) rfl (fun ls hl => ?_)
  refine lv_aload_n hx hb dX0_decode_11 rfl (lv_at hl 1 rfl) ?_
  refine g_get (C := RX0) (T := TX0) (NN := 5) (ci := 0) hx hb hts hinX0 hown hE hG (k := 9) (by omega) rfl rfl 0 (by decide) (hts (.fieldLink RX0 9 "Commutator$Decoder" "usedFrames" "I") (List.mem_of_getElem? (i := 1) rfl)) rfl (v := .int (A 9 0)) rfl dX0_decode_12 ?_
  refine g_top (y := zI (G 28 21)) (hde.1) ?_
  refine lv_if_ne (tgt := 27) hx hb dX0_decode_15 (by decide) (fun c15 => ?_) (fun c15 => ?_)
  · skip
    have c15 : ¬ ((zI (G 28 21)) = nI 0) := c15
    have c15 : ¬ ((G 28 21) = ((0 : Nat) : Int)) := fun z9 => c15 ((cmp_eq (zI_toInt (by omega) (by omega)) (nI_toInt (by omega))).mpr z9)
    have hm19 : G 28 19 ≠ -1 := fun z => c15 (hN19.mp z)
    have hmn : mNum G = G 28 20 + mFar G := if_neg hm19
    have hd34 := hde.2.2.2 (by omega)
    refine lv_iload hx hb dX0_decode_27 (lv_at hl 0 rfl) ?_
    refine lv_aload_n hx hb dX0_decode_29 rfl (lv_at hl 1 rfl) ?_
    refine g_get (C := RX0) (T := TX0) (NN := 5) (ci := 0) hx hb hts hinX0 hown hE hG (k := 9) (by omega) rfl rfl 3 (by decide) (hts (.fieldLink RX0 18 "Commutator$Decoder" "latestCounter" "I") (List.mem_of_getElem? (i := 3) rfl)) rfl (v := .int (A 9 3)) rfl dX0_decode_30 ?_
    refine g_top (y := zI (G 28 19)) ((hde.2.2.2 (by omega)).1) ?_
    refine lv_isub hx hb dX0_decode_33 ?_
    refine g_top (y := zI ((mK G) - (G 28 19))) (zI_sub _ _) ?_
    refine lv_sipush (v := nI 255) hx hb dX0_decode_34 (by decide) ?_
    refine lv_iand hx hb dX0_decode_37 ?_
    refine g_top (y := zI (mFar G)) ((z_and255 _).trans (congrArg zI (by unfold mFar; rw [if_neg (by omega)]; omega))) ?_
    refine lv_istore (lv' := [(5, .int (zI (mFar G))), (4, .int (zI (mK G))), (0, .ref (ad 9)), (1, .long Fq), (3, .ref (ad 1))]) hx hb dX0_decode_38 hl (by decide) rfl (fun ls hl => ?_)
    refine lv_iload hx hb dX0_decode_40 (lv_at hl 0 rfl) ?_
    refine lv_if_ne (tgt := 56) hx hb dX0_decode_42 (by decide) (fun c42 => ?_) (fun c42 => ?_)
    · skip
      have c42 : ¬ ((zI (mFar G)) = nI 0) := c42
      have c42 : ¬ ((mFar G) = ((0 : Nat) : Int)) := fun z9 => c42 ((cmp_eq (zI_toInt (by omega) (by omega)) (nI_toInt (by omega))).mpr z9)
      have hrp : ¬ mRep1 G := fun z => c42 z.2
      refine lv_aload_n hx hb dX0_decode_56 rfl (lv_at hl 2 rfl) ?_
      refine lv_iload hx hb dX0_decode_57 (lv_at hl 0 rfl) ?_
      refine lv_iconst (v := nI 1) hx hb dX0_decode_59 (by decide) ?_
      refine lv_isub hx hb dX0_decode_60 ?_
      refine g_top (y := zI ((mFar G) - 1)) (zI_sub_in _ _) ?_
      refine g_top (y := nI (mFar G - 1).toNat) (zI_nat (by omega)) ?_
      refine lv_aload_n hx hb dX0_decode_61 rfl (lv_at hl 4 rfl) ?_
      refine g_callV (As := [.int (nI ((mFar G - 1).toNat)), .ref (ad 1)]) (rest := []) (r := (RX0, TX0, 5)) ⟨hx, hb, hml, hown, hts⟩ hE hG (cX0_noteLostC l D cy base ad n A J G ((mFar G - 1).toNat) (by first | assumption | omega) (by first | assumption | omega) (by first | assumption | omega) (by first | assumption | omega) (by first | assumption | omega) ⟨hd34.1, by omega, by omega⟩ hde.2.1) (cwV 2 hts gX0_decode_X0_noteLost rfl rfl rfl (by decide +kernel) ⟨Nat.le_of_ble_eq_true rfl, Nat.le_of_ble_eq_true rfl⟩) (by omega) rfl rfl rfl hl.1 rfl (Nat.le_of_ble_eq_true rfl) dX0_decode_62 ⟨Nat.zero_le _, Nat.zero_le _⟩ (fun v_ A62 J62 H locs hp hG => ?_)
      obtain ⟨rfl, rfl, hF1_62, hO1_62⟩ := hp
      refine W.eq (g2 := F0 mM 65 ls []) rfl ?_
      have hms : ∀ i : Nat, i < n → PtF A62 (mMissI G (mFar G - 1).toNat 0) i := fun i hi => hF1_62 i (by omega)
      refine lv_aload_n hx hb dX0_decode_65 rfl (lv_at hl 2 rfl) ?_
      refine lv_dup hx hb dX0_decode_66 rfl ?_
      refine g_get (C := RX0) (T := TX0) (NN := 5) (ci := 0) hx hb hts hinX0 hown hE hG (k := 9) (by omega) rfl rfl 4 (by decide) (hts (.fieldLink RX0 15 "Commutator$Decoder" "latestNumber" "I") (List.mem_of_getElem? (i := 2) rfl)) rfl (v := .int (A62 9 4)) rfl dX0_decode_67 ?_
      refine g_top (y := zI (G 28 20)) ((congrFun (hO1_62 9 (by omega)) 4).trans (hde.2.2.2 (by omega)).2) ?_
      refine lv_iload hx hb dX0_decode_70 (lv_at hl 0 rfl) ?_
      refine lv_iadd hx hb dX0_decode_72 ?_
      refine g_top (y := zI ((G 28 20) + (mFar G))) (zI_add _ _) ?_
      refine g_puti (C := RX0) (T := TX0) (NN := 5) (ci := 0) hx hb hts hinX0 tyX0 tyX0_ok nmX0 hown hE hG (k := 9) (by omega) rfl rfl 4 (by decide) (hts (.fieldLink RX0 15 "Commutator$Decoder" "latestNumber" "I") (List.mem_of_getElem? (i := 2) rfl)) rfl rfl (ty := .int) (v := zI ((G 28 20) + (mFar G))) (by decide +kernel) rfl rfl (Nat.le_of_ble_eq_true rfl) rfl dX0_decode_73 (fun H locs hG => ?_)
      refine lv_aload_n hx hb dX0_decode_76 rfl (lv_at hl 2 rfl) ?_
      refine lv_iload hx hb dX0_decode_77 (lv_at hl 1 rfl) ?_
      refine g_puti (C := RX0) (T := TX0) (NN := 5) (ci := 0) hx hb hts hinX0 tyX0 tyX0_ok nmX0 hown hE hG (k := 9) (by omega) rfl rfl 3 (by decide) (hts (.fieldLink RX0 18 "Commutator$Decoder" "latestCounter" "I") (List.mem_of_getElem? (i := 3) rfl)) rfl rfl (ty := .int) (v := zI (mK G)) (by decide +kernel) rfl rfl (Nat.le_of_ble_eq_true rfl) rfl dX0_decode_79 (fun H locs hG => ?_)
      refine lv_aload_n hx hb dX0_decode_82 rfl (lv_at hl 2 rfl) ?_
      refine lv_dup hx hb dX0_decode_83 rfl ?_
      refine g_get (C := RX0) (T := TX0) (NN := 5) (ci := 0) hx hb hts hinX0 hown hE hG (k := 9) (by omega) rfl rfl 0 (by decide) (hts (.fieldLink RX0 9 "Commutator$Decoder" "usedFrames" "I") (List.mem_of_getElem? (i := 1) rfl)) rfl (v := .int (A62 9 0)) rfl dX0_decode_84 ?_
      refine g_top (y := zI (G 28 21)) ((congrFun (hO1_62 9 (by omega)) 0).trans hde.1) ?_
      refine lv_iconst (v := nI 1) hx hb dX0_decode_87 (by decide) ?_
      refine lv_iadd hx hb dX0_decode_88 ?_
      refine g_top (y := zI ((G 28 21) + 1)) (zI_add_in _ _) ?_
      refine g_puti (C := RX0) (T := TX0) (NN := 5) (ci := 0) hx hb hts hinX0 tyX0 tyX0_ok nmX0 hown hE hG (k := 9) (by omega) rfl rfl 0 (by decide) (hts (.fieldLink RX0 9 "Commutator$Decoder" "usedFrames" "I") (List.mem_of_getElem? (i := 1) rfl)) rfl rfl (ty := .int) (v := zI ((G 28 21) + 1)) (by decide +kernel) rfl rfl (Nat.le_of_ble_eq_true rfl) rfl dX0_decode_89 (fun H locs hG => ?_)
      refine lv_aload_n hx hb dX0_decode_92 rfl (lv_at hl 2 rfl) ?_
      refine lv_lload_n hx hb dX0_decode_93 rfl (lv_at hl 3 rfl) ?_
      refine lv_aload_n hx hb dX0_decode_94 rfl (lv_at hl 4 rfl) ?_
      refine g_callV (As := [.long Fq, .ref (ad 1)]) (rest := []) (r := (RX0, TX0, 5)) ⟨hx, hb, hml, hown, hts⟩ hE hG (cX0_giveSamplesC l D cy base ad n (gu (gu (gu A62 9 4 (zI ((G 28 20) + (mFar G)))) 9 3 (zI (mK G))) 9 0 (zI ((G 28 21) + 1))) J (mDec1 G) Fq (mK G) (by first | exact ⟨(congrFun (hO1_62 1 (by omega)) 1).trans hct.1, hct.2⟩ | exact hct) hn (Dec1_tok hT) (Dec1_pts hms (fun k hk => by rw [gu_ne _ _ _ (by omega), gu_ne _ _ _ (by omega), gu_ne _ _ _ (by omega)])) (fun i => by have h9 := (hokA i).1; rw [mDec1_k G i (by omega) (by omega)]; omega) (Dec1_fr hFr) (fun j => by rw [Dec1_38]; exact hokP j) ⟨rfl, hmk.1, hmk.2⟩ ⟨congrArg zI hmn.symm, by show 0 ≤ mNum G; rw [hmn]; omega, by show mNum G ≤ 3000000; rw [hmn]; omega⟩) (cwV 2 hts gX0_decode_X0_giveSamples rfl rfl rfl (by decide +kernel) ⟨Nat.le_of_ble_eq_true rfl, Nat.le_of_ble_eq_true rfl⟩) (by omega) rfl rfl rfl hl.1 rfl (Nat.le_of_ble_eq_true rfl) dX0_decode_95 ⟨Nat.zero_le _, Nat.zero_le _⟩ (fun v_ A95 J95 H locs hp hG => ?_)
      obtain ⟨rfl, rfl, hF1_95, hO1_95⟩ := hp
      refine W.eq (g2 := F0 mM 98 ls []) rfl ?_
      exact g_vret hx hb hr hlocks hG ⟨rfl, rfl, CDe_dec hO1_95 rfl (by first | exact congrFun (hO1_62 9 (by omega)) 1 | exact hde.2.1.trans (congrArg zI (by omega))) (by first | exact (congrFun (hO1_62 9 (by omega)) 2).trans hde.2.2.1 | exact hde.2.2.1) rfl (congrArg zI hmn.symm) hrp, (fun i hi => by unfold mDecT; rw [if_neg hrp]; exact hF1_95 i hi), (fun k a b => by first | rw [hO1_95 k a, gu_ne _ _ _ b, gu_ne _ _ _ b, gu_ne _ _ _ b, hO1_62 k a, gu_ne _ _ _ b] | rw [hO1_95 k a, gu_ne _ _ _ b, gu_ne _ _ _ b, gu_ne _ _ _ b])⟩ dX0_decode_98
    · skip
      have c42 : (zI (mFar G)) = nI 0 := c42
      have c42 : (mFar G) = ((0 : Nat) : Int) := (cmp_eq (zI_toInt (by omega) (by omega)) (nI_toInt (by omega))).mp c42
      have hrp : mRep1 G := ⟨hm19, by omega⟩
      refine lv_aload_n hx hb dX0_decode_45 rfl (lv_at hl 2 rfl) ?_
      refine lv_dup hx hb dX0_decode_46 rfl ?_
      refine g_get (C := RX0) (T := TX0) (NN := 5) (ci := 0) hx hb hts hinX0 hown hE hG (k := 9) (by omega) rfl rfl 2 (by decide) (hts (.fieldLink RX0 21 "Commutator$Decoder" "repeatedFrames" "I") (List.mem_of_getElem? (i := 4) rfl)) rfl (v := .int (A 9 2)) rfl dX0_decode_47 ?_
      refine g_top (y := zI (G 28 23)) (hde.2.2.1) ?_
      refine lv_iconst (v := nI 1) hx hb dX0_decode_50 (by decide) ?_
      refine lv_iadd hx hb dX0_decode_51 ?_
      refine g_top (y := zI ((G 28 23) + 1)) (zI_add_in _ _) ?_
      refine g_puti (C := RX0) (T := TX0) (NN := 5) (ci := 0) hx hb hts hinX0 tyX0 tyX0_ok nmX0 hown hE hG (k := 9) (by omega) rfl rfl 2 (by decide) (hts (.fieldLink RX0 21 "Commutator$Decoder" "repeatedFrames" "I") (List.mem_of_getElem? (i := 4) rfl)) rfl rfl (ty := .int) (v := zI ((G 28 23) + 1)) (by decide +kernel) rfl rfl (Nat.le_of_ble_eq_true rfl) rfl dX0_decode_52 (fun H locs hG => ?_)
      exact g_vret hx hb hr hlocks hG ⟨rfl, rfl, by unfold mDecT; rw [if_pos hrp]; exact ⟨hde.1, hde.2.1, rfl, hde.2.2.2⟩, (fun i hi => by unfold mDecT; rw [if_pos hrp]; exact (hFs i (by omega)).to (gu_ne _ _ _ (by omega)) (gu_ne _ _ _ (by omega)) (fun k _ _ _ _ _ => congrFun (gu_ne _ _ _ (by omega)) i)), (fun k a b => gu_ne _ _ _ b)⟩ dX0_decode_55
  · skip
    have c15 : (zI (G 28 21)) = nI 0 := c15
    have c15 : (G 28 21) = ((0 : Nat) : Int) := (cmp_eq (zI_toInt (by omega) (by omega)) (nI_toInt (by omega))).mp c15
    have hm19 : G 28 19 = -1 := hN19.mpr (by omega)
    have hmf0 : mFar G = 0 := if_pos hm19
    have hmn : mNum G = mK G := if_pos hm19
    have hrp : ¬ mRep1 G := fun z => z.1 hm19
    have hms : ∀ i : Nat, i < n → PtF A (mMissI G (mFar G - 1).toNat 0) i := by rw [show (mFar G - 1).toNat = 0 from by omega]; exact Miss_0 hFs
    refine lv_aload_n hx hb dX0_decode_18 rfl (lv_at hl 1 rfl) ?_
    refine lv_iload hx hb dX0_decode_19 (lv_at hl 0 rfl) ?_
    refine g_puti (C := RX0) (T := TX0) (NN := 5) (ci := 0) hx hb hts hinX0 tyX0 tyX0_ok nmX0 hown hE hG (k := 9) (by omega) rfl rfl 4 (by decide) (hts (.fieldLink RX0 15 "Commutator$Decoder" "latestNumber" "I") (List.mem_of_getElem? (i := 2) rfl)) rfl rfl (ty := .int) (v := zI (mK G)) (by decide +kernel) rfl rfl (Nat.le_of_ble_eq_true rfl) rfl dX0_decode_21 (fun H locs hG => ?_)
    refine lv_goto (tgt := 76) hx hb dX0_decode_24 (by decide) ?_
    refine lv_aload_n hx hb dX0_decode_76 rfl (lv_at hl 1 rfl) ?_
    refine lv_iload hx hb dX0_decode_77 (lv_at hl 0 rfl) ?_
    refine g_puti (C := RX0) (T := TX0) (NN := 5) (ci := 0) hx hb hts hinX0 tyX0 tyX0_ok nmX0 hown hE hG (k := 9) (by omega) rfl rfl 3 (by decide) (hts (.fieldLink RX0 18 "Commutator$Decoder" "latestCounter" "I") (List.mem_of_getElem? (i := 3) rfl)) rfl rfl (ty := .int) (v := zI (mK G)) (by decide +kernel) rfl rfl (Nat.le_of_ble_eq_true rfl) rfl dX0_decode_79 (fun H locs hG => ?_)
    refine lv_aload_n hx hb dX0_decode_82 rfl (lv_at hl 1 rfl) ?_
    refine lv_dup hx hb dX0_decode_83 rfl ?_
    refine g_get (C := RX0) (T := TX0) (NN := 5) (ci := 0) hx hb hts hinX0 hown hE hG (k := 9) (by omega) rfl rfl 0 (by decide) (hts (.fieldLink RX0 9 "Commutator$Decoder" "usedFrames" "I") (List.mem_of_getElem? (i := 1) rfl)) rfl (v := .int (A 9 0)) rfl dX0_decode_84 ?_
    refine g_top (y := zI (G 28 21)) (hde.1) ?_
    refine lv_iconst (v := nI 1) hx hb dX0_decode_87 (by decide) ?_
    refine lv_iadd hx hb dX0_decode_88 ?_
    refine g_top (y := zI ((G 28 21) + 1)) (zI_add_in _ _) ?_
    refine g_puti (C := RX0) (T := TX0) (NN := 5) (ci := 0) hx hb hts hinX0 tyX0 tyX0_ok nmX0 hown hE hG (k := 9) (by omega) rfl rfl 0 (by decide) (hts (.fieldLink RX0 9 "Commutator$Decoder" "usedFrames" "I") (List.mem_of_getElem? (i := 1) rfl)) rfl rfl (ty := .int) (v := zI ((G 28 21) + 1)) (by decide +kernel) rfl rfl (Nat.le_of_ble_eq_true rfl) rfl dX0_decode_89 (fun H locs hG => ?_)
    refine lv_aload_n hx hb dX0_decode_92 rfl (lv_at hl 1 rfl) ?_
    refine lv_lload_n hx hb dX0_decode_93 rfl (lv_at hl 2 rfl) ?_
    refine lv_aload_n hx hb dX0_decode_94 rfl (lv_at hl 3 rfl) ?_
    refine g_callV (As := [.long Fq, .ref (ad 1)]) (rest := []) (r := (RX0, TX0, 5)) ⟨hx, hb, hml, hown, hts⟩ hE hG (cX0_giveSamplesC l D cy base ad n (gu (gu (gu A 9 4 (zI (mK G))) 9 3 (zI (mK G))) 9 0 (zI ((G 28 21) + 1))) J (mDec1 G) Fq (mK G) (by first | exact ⟨(congrFun (hO1_62 1 (by omega)) 1).trans hct.1, hct.2⟩ | exact hct) hn (Dec1_tok hT) (Dec1_pts hms (fun k hk => by rw [gu_ne _ _ _ (by omega), gu_ne _ _ _ (by omega), gu_ne _ _ _ (by omega)])) (fun i => by have h9 := (hokA i).1; rw [mDec1_k G i (by omega) (by omega)]; omega) (Dec1_fr hFr) (fun j => by rw [Dec1_38]; exact hokP j) ⟨rfl, hmk.1, hmk.2⟩ ⟨congrArg zI hmn.symm, by show 0 ≤ mNum G; rw [hmn]; omega, by show mNum G ≤ 3000000; rw [hmn]; omega⟩) (cwV 2 hts gX0_decode_X0_giveSamples rfl rfl rfl (by decide +kernel) ⟨Nat.le_of_ble_eq_true rfl, Nat.le_of_ble_eq_true rfl⟩) (by omega) rfl rfl rfl hl.1 rfl (Nat.le_of_ble_eq_true rfl) dX0_decode_95 ⟨Nat.zero_le _, Nat.zero_le _⟩ (fun v_ A95 J95 H locs hp hG => ?_)
    obtain ⟨rfl, rfl, hF1_95, hO1_95⟩ := hp
    refine W.eq (g2 := F0 mM 98 ls []) rfl ?_
    exact g_vret hx hb hr hlocks hG ⟨rfl, rfl, CDe_dec hO1_95 rfl (by first | exact congrFun (hO1_62 9 (by omega)) 1 | exact hde.2.1.trans (congrArg zI (by omega))) (by first | exact (congrFun (hO1_62 9 (by omega)) 2).trans hde.2.2.1 | exact hde.2.2.1) rfl (congrArg zI hmn.symm) hrp, (fun i hi => by unfold mDecT; rw [if_neg hrp]; exact hF1_95 i hi), (fun k a b => by first | rw [hO1_95 k a, gu_ne _ _ _ b, gu_ne _ _ _ b, gu_ne _ _ _ b, hO1_62 k a, gu_ne _ _ _ b] | rw [hO1_95 k a, gu_ne _ _ _ b, gu_ne _ _ _ b, gu_ne _ _ _ b])⟩ dX0_decode_98
