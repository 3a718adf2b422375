abbrev PX4_readFrom (ad : Nat → Nat) (A : Nat → Nat → Int32) (J : Nat → Nat → Int64) (G : Nat → Nat → Int) (iq : Nat) (Fq : Int64) (cq numq : Int) : Option Value → (Nat → Nat → Int32) → (Nat → Nat → Int64) → Prop := fun v_ A1 J1 => (v_ = none ∧ J = J1 ∧ (PtF A1 (mGive G cq iq (G 32 iq).toNat) iq) ∧ (POnly A A1 iq))
set_option maxHeartbeats 4000000 in
set_option maxRecDepth 100000 in
theorem cX4_readFromC (l : Launch) (D : va_G) (cy : Nat → ClassId) (base : Nat) (ad : Nat → Nat) (n : Nat) (A : Nat → Nat → Int32) (J : Nat → Nat → Int64) (G : Nat → Nat → Int) (iq : Nat) (Fq : Int64) (cq numq : Int) (hiqn : iq < n) (hT : TOk G iq) (hF : PtF A (mGive G cq iq 0) iq) (h41 : 0 ≤ G 41 iq ∧ G 41 iq ≤ 16000) (hFr : FrR Fq G (G 28 15 + 63)) (hpa : mPast G) (hnum : numq = G 28 20 ∧ 0 ≤ numq ∧ numq ≤ 3000000) : gMet l yX4_readFrom wsX4_readFrom ({ frames := 2, cells := 0, slots := 0, locals := 42 } : Room) D cy base ad n A J [.ref (ad (33 + 2 * iq)), .long Fq, .int (zI numq)] (PX4_readFrom ad A J G iq Fq cq numq) := by
  refine g_ofW (cc := cX4_readFrom) (maxL := 6) (ret := none) (by decide) rfl (Nat.le_of_ble_eq_true rfl) ?_
  intro pM eM sM mM aM bM methM cM H locs ls hx hb hr hts hown hlocks hml hE hG hl
  have hl : lv_has ls 6 [(0, .ref (ad (33 + 2 * iq))), (1, .long Fq), (3, .int (zI numq))] := hl
  have hinX4 : ∀ w ∈ u_ws RX4 TX4 10, w ∈ wsX4_readFrom := by decide +kernel
  have hinX6 : ∀ w ∈ u_ws RX6 TX6 3, w ∈ wsX4_readFrom := by decide +kernel
  refine lv_iconst (v := nI 0) hx hb dX4_readFrom_0 (by decide) ?_
  refine lv_istore (lv' := [(4, .int (nI 0)), (0, .ref (ad (33 + 2 * iq))), (1, .long Fq), (3, .int (zI numq))]) hx hb dX4_readFrom_1 hl (by decide) rfl (fun ls hl => ?_)
  have LLq3 : ∀ (fuel : Nat) (sq : Nat) (Aq : Nat → Nat → Int32) (hsq : (sq : Int) ≤ G 32 iq) (hFq : PtF Aq (mGive G cq iq sq) iq) (hO : POnly A Aq iq) (_ : 2 - sq < fuel) (H : Heap) (locs : List Loc) (ls : Array Slot), gH D base sM ad (33 + 2 * n) (gw cy ad n Aq J) H locs → lv_has ls 6 [(4, .int (nI sq)), (0, .ref (ad (33 + 2 * iq))), (1, .long Fq), (3, .int (zI numq))] → W pM l eM ({ frames := 2, cells := 0, slots := 0, locals := 42 } : Room) sM mM aM bM methM cM H locs 0 0 (MQ bM (gPost D cy base ad n (PX4_readFrom ad A J G iq Fq cq numq)) aM sM 0 0 (fun q => base ≤ q)) (F0 mM 3 ls []) := by
    intro fuel
    induction fuel with
    | zero => intro sq Aq hsq hFq hO hms H locs ls hG hl; exact absurd hms (Nat.not_lt_zero _)
    | succ fuel ihq3 =>
      intro sq Aq hsq hFq hO hms H locs ls hG hl
      have hPq : PtR Aq G iq := PtR_give hFq.1
      refine lv_iload hx hb dX4_readFrom_3 (lv_at hl 0 rfl) ?_
      refine lv_aload_n hx hb dX4_readFrom_5 rfl (lv_at hl 1 rfl) ?_
      refine g_callV (As := []) (rest := [.int (nI sq)]) (r := (RX4, TX4, 10)) ⟨hx, hb, hml, hown, hts⟩ hE hG (cX4_samplesInFrameC l D cy base ad n Aq J G iq (by first | assumption | omega) hPq (by first | assumption | omega)) (cwV 0 hts gX4_readFrom_X4_samplesInFrame rfl rfl rfl (by decide +kernel) ⟨Nat.le_of_ble_eq_true rfl, Nat.le_of_ble_eq_true rfl⟩) (by omega) (gw_pt cy ad n _ _ iq) rfl rfl hl.1 rfl (Nat.le_of_ble_eq_true rfl) dX4_readFrom_6 ⟨Nat.zero_le _, Nat.zero_le _⟩ (fun v_ A6 J6 H locs hp hG => ?_)
      obtain ⟨rfl, rfl, rfl⟩ := hp
      refine W.eq (g2 := F0 mM 9 ls [.int (zI (G 32 iq)), .int (nI sq)]) rfl ?_
      refine lv_icmp_ge (tgt := 72) hx hb dX4_readFrom_9 (by decide) (fun c9 => ?_) (fun c9 => ?_)
      · skip
        have c9 : (G 32 iq) ≤ ((sq : Nat) : Int) := (cmp_le (zI_toInt (by omega) (by omega)) (nI_toInt (by omega))).mp c9
        exact g_vret hx hb hr hlocks hG ⟨rfl, rfl, (by rw [show (G 32 iq).toNat = sq from by omega]; exact hFq), hO⟩ dX4_readFrom_72
      · skip
        have c9 : ¬ ((G 32 iq) ≤ ((sq : Nat) : Int)) := fun z9 => c9 ((cmp_le (zI_toInt (by omega) (by omega)) (nI_toInt (by omega))).mpr z9)
        have hat : mAt G iq ((sq : Nat) : Int) = 16 + G 34 iq + 24 * ((sq : Nat) : Int) := rfl
        have hbit := mBits_12 hpa (G 28 15 + mAt G iq ((sq : Nat) : Int)) (q := (G 29 iq).toNat) (by omega)
        have hhf := gHf_range (w := G 29 iq) (by omega) (by omega)
        have hdr := gDec_r (cv := G 30 iq) (w := G 29 iq) (by omega) (by omega) hbit
        refine lv_lload_n hx hb dX4_readFrom_12 rfl (lv_at hl 2 rfl) ?_
        refine lv_aload_n hx hb dX4_readFrom_13 rfl (lv_at hl 1 rfl) ?_
        refine lv_iload hx hb dX4_readFrom_14 (lv_at hl 0 rfl) ?_
        refine g_callV (As := [.int (nI sq)]) (rest := [.long Fq]) (r := (RX4, TX4, 10)) ⟨hx, hb, hml, hown, hts⟩ hE hG (cX4_shiftC l D cy base ad n Aq J G iq ((sq : Nat) : Int) (by first | assumption | omega) hPq (by first | assumption | omega) (by first | assumption | omega)) (cwV 1 hts gX4_readFrom_X4_shift rfl rfl rfl (by decide +kernel) ⟨Nat.le_of_ble_eq_true rfl, Nat.le_of_ble_eq_true rfl⟩) (by omega) (gw_pt cy ad n _ _ iq) rfl rfl hl.1 rfl (Nat.le_of_ble_eq_true rfl) dX4_readFrom_16 ⟨Nat.zero_le _, Nat.zero_le _⟩ (fun v_ A16 J16 H locs hp hG => ?_)
        obtain ⟨rfl, rfl, rfl⟩ := hp
        refine W.eq (g2 := F0 mM 19 ls [.int (zI (64 - mAt G iq ((sq : Nat) : Int) - G 29 iq)), .long Fq]) rfl ?_
        refine lv_lushr (v := gushr Fq (zI (64 - mAt G iq ((sq : Nat) : Int) - G 29 iq))) hx hb dX4_readFrom_19 rfl ?_
        refine lv_l2i (v := (gushr Fq (zI (64 - mAt G iq ((sq : Nat) : Int) - G 29 iq))).toInt32) hx hb dX4_readFrom_20 rfl ?_
        refine lv_iconst (v := nI 1) hx hb dX4_readFrom_21 (by decide) ?_
        refine lv_aload_n hx hb dX4_readFrom_22 rfl (lv_at hl 1 rfl) ?_
        refine g_get (C := RX4) (T := TX4) (NN := 10) (ci := 4) hx hb hts hinX4 hown hE hG (k := 33 + 2 * iq) (by omega) (gw_pt cy ad n _ _ iq) rfl 0 (by decide) (hts (.fieldLink RX4 9 "Commutator$Point" "width" "I") (List.mem_of_getElem? (i := 1) rfl)) rfl (v := .int (Aq (33 + 2 * iq) 0)) rfl dX4_readFrom_23 ?_
        refine g_top (y := zI (G 29 iq)) (hPq.1) ?_
        refine lv_ishl hx hb dX4_readFrom_26 ?_
        refine g_top (y := zI (2 * gHf (G 29 iq))) (shl_w (by omega) (by omega)) ?_
        refine lv_iconst (v := nI 1) hx hb dX4_readFrom_27 (by decide) ?_
        refine lv_isub hx hb dX4_readFrom_28 ?_
        refine g_top (y := zI ((2 * gHf (G 29 iq)) - 1)) (zI_sub_in _ _) ?_
        refine lv_iand hx hb dX4_readFrom_29 ?_
        refine g_top (y := zI (mBits G (G 28 15 + mAt G iq ((sq : Nat) : Int)) (G 29 iq).toNat)) ((rd_raw hpa hFr (by omega) (by omega) (by omega) (by omega)).trans (congrArg zI (by congr 1; omega))) ?_
        refine lv_istore (lv' := [(5, .int (zI (mBits G (G 28 15 + mAt G iq ((sq : Nat) : Int)) (G 29 iq).toNat))), (4, .int (nI sq)), (0, .ref (ad (33 + 2 * iq))), (1, .long Fq), (3, .int (zI numq))]) hx hb dX4_readFrom_30 hl (by decide) rfl (fun ls hl => ?_)
        refine lv_aload_n hx hb dX4_readFrom_32 rfl (lv_at hl 2 rfl) ?_
        refine g_get (C := RX4) (T := TX4) (NN := 10) (ci := 4) hx hb hts hinX4 hown hE hG (k := 33 + 2 * iq) (by omega) (gw_pt cy ad n _ _ iq) rfl 7 (by decide) (hts (.fieldLink RX4 34 "Commutator$Point" "latest" "LCommutator$Reading;") (List.mem_of_getElem? (i := 2) rfl)) rfl (v := .ref (ad (33 + 2 * iq + 1))) rfl dX4_readFrom_33 ?_
        refine lv_aload_n hx hb dX4_readFrom_36 rfl (lv_at hl 2 rfl) ?_
        refine lv_iload hx hb dX4_readFrom_37 (lv_at hl 0 rfl) ?_
        refine g_callV (As := [.int (zI (mBits G (G 28 15 + mAt G iq ((sq : Nat) : Int)) (G 29 iq).toNat))]) (rest := [.ref (ad (33 + 2 * iq + 1))]) (r := (RX4, TX4, 10)) ⟨hx, hb, hml, hown, hts⟩ hE hG (cX4_decodeC l D cy base ad n Aq J G iq (mBits G (G 28 15 + mAt G iq ((sq : Nat) : Int)) (G 29 iq).toNat) (by first | assumption | omega) hPq (by first | assumption | omega) (by first | assumption | omega)) (cwV 1 hts gX4_readFrom_X4_decode rfl rfl rfl (by decide +kernel) ⟨Nat.le_of_ble_eq_true rfl, Nat.le_of_ble_eq_true rfl⟩) (by omega) (gw_pt cy ad n _ _ iq) rfl rfl hl.1 rfl (Nat.le_of_ble_eq_true rfl) dX4_readFrom_39 ⟨Nat.zero_le _, Nat.zero_le _⟩ (fun v_ A39 J39 H locs hp hG => ?_)
        obtain ⟨rfl, rfl, rfl⟩ := hp
        refine W.eq (g2 := F0 mM 42 ls [.int (zI (gDec (G 30 iq) (G 29 iq) (mBits G (G 28 15 + mAt G iq ((sq : Nat) : Int)) (G 29 iq).toNat))), .ref (ad (33 + 2 * iq + 1))]) rfl ?_
        refine lv_bipush (v := nI 64) hx hb dX4_readFrom_42 (by decide) ?_
        refine lv_iload_n hx hb dX4_readFrom_44 rfl (lv_at hl 4 rfl) ?_
        refine lv_imul hx hb dX4_readFrom_45 ?_
        refine g_top (y := zI (64 * numq)) (zI_mul_ni _ _) ?_
        refine lv_aload_n hx hb dX4_readFrom_46 rfl (lv_at hl 2 rfl) ?_
        refine lv_iload hx hb dX4_readFrom_47 (lv_at hl 1 rfl) ?_
        refine g_callV (As := [.int (nI sq)]) (rest := [.int (zI (64 * numq)), .int (zI (gDec (G 30 iq) (G 29 iq) (mBits G (G 28 15 + mAt G iq ((sq : Nat) : Int)) (G 29 iq).toNat))), .ref (ad (33 + 2 * iq + 1))]) (r := (RX4, TX4, 10)) ⟨hx, hb, hml, hown, hts⟩ hE hG (cX4_firstBitC l D cy base ad n Aq J G iq ((sq : Nat) : Int) (by first | assumption | omega) hPq (by first | assumption | omega) (by first | assumption | omega)) (cwV 1 hts gX4_readFrom_X4_firstBit rfl rfl rfl (by decide +kernel) ⟨Nat.le_of_ble_eq_true rfl, Nat.le_of_ble_eq_true rfl⟩) (by omega) (gw_pt cy ad n _ _ iq) rfl rfl hl.1 rfl (Nat.le_of_ble_eq_true rfl) dX4_readFrom_49 ⟨Nat.zero_le _, Nat.zero_le _⟩ (fun v_ A49 J49 H locs hp hG => ?_)
        obtain ⟨rfl, rfl, rfl⟩ := hp
        refine W.eq (g2 := F0 mM 52 ls [.int (zI (mAt G iq ((sq : Nat) : Int))), .int (zI (64 * numq)), .int (zI (gDec (G 30 iq) (G 29 iq) (mBits G (G 28 15 + mAt G iq ((sq : Nat) : Int)) (G 29 iq).toNat))), .ref (ad (33 + 2 * iq + 1))]) rfl ?_
        refine lv_iadd hx hb dX4_readFrom_52 ?_
        refine g_top (y := zI ((64 * numq) + (mAt G iq ((sq : Nat) : Int)))) (zI_add _ _) ?_
        refine g_callV (As := [.int (zI (gDec (G 30 iq) (G 29 iq) (mBits G (G 28 15 + mAt G iq ((sq : Nat) : Int)) (G 29 iq).toNat))), .int (zI ((64 * numq) + (mAt G iq ((sq : Nat) : Int))))]) (rest := []) (r := (RX6, TX6, 3)) ⟨hx, hb, hml, hown, hts⟩ hE hG (cX6_setC l D cy base ad n Aq J (33 + 2 * iq + 1) (zI (gDec (G 30 iq) (G 29 iq) (mBits G (G 28 15 + mAt G iq ((sq : Nat) : Int)) (G 29 iq).toNat))) (zI ((64 * numq) + (mAt G iq ((sq : Nat) : Int)))) (by unfold gIsR; omega)) (cwV 2 hts gX4_readFrom_X6_set rfl rfl rfl (by decide +kernel) ⟨Nat.le_of_ble_eq_true rfl, Nat.le_of_ble_eq_true rfl⟩) (by omega) (gw_rp cy ad n _ _ iq) rfl rfl hl.1 rfl (Nat.le_of_ble_eq_true rfl) dX4_readFrom_53 ⟨Nat.zero_le _, Nat.zero_le _⟩ (fun v_ A53 J53 H locs hp hG => ?_)
        obtain ⟨rfl, rfl, rfl⟩ := hp
        refine W.eq (g2 := F0 mM 56 ls []) rfl ?_
        refine lv_aload_n hx hb dX4_readFrom_56 rfl (lv_at hl 2 rfl) ?_
        refine lv_dup hx hb dX4_readFrom_57 rfl ?_
        refine g_get (C := RX4) (T := TX4) (NN := 10) (ci := 4) hx hb hts hinX4 hown hE hG (k := 33 + 2 * iq) (by omega) (gw_pt cy ad n _ _ iq) rfl 8 (by decide) (hts (.fieldLink RX4 59 "Commutator$Point" "sampleCount" "I") (List.mem_of_getElem? (i := 3) rfl)) rfl (v := .int (Aq (33 + 2 * iq) 8)) (by first | rfl | (simp only [gu_at]; simp) | (simp only [gu_at]; simp; omega)) dX4_readFrom_58 ?_
        refine g_top (y := zI (G 41 iq + ((sq : Nat) : Int))) (hFq.2.2.1.trans (congrArg zI (mGive_41 G cq iq sq))) ?_
        refine lv_iconst (v := nI 1) hx hb dX4_readFrom_61 (by decide) ?_
        refine lv_iadd hx hb dX4_readFrom_62 ?_
        refine g_top (y := zI ((G 41 iq + ((sq : Nat) : Int)) + 1)) (zI_add_in _ _) ?_
        refine g_puti (C := RX4) (T := TX4) (NN := 10) (ci := 4) hx hb hts hinX4 tyX4 tyX4_ok nmX4 hown hE hG (k := 33 + 2 * iq) (by omega) (gw_pt cy ad n _ _ iq) rfl 8 (by decide) (hts (.fieldLink RX4 59 "Commutator$Point" "sampleCount" "I") (List.mem_of_getElem? (i := 3) rfl)) rfl rfl (ty := .int) (v := zI ((G 41 iq + ((sq : Nat) : Int)) + 1)) (by decide +kernel) rfl rfl (Nat.le_of_ble_eq_true rfl) ((gC_pt cy ad n iq _ _).trans rfl) dX4_readFrom_63 (fun H locs hG => ?_)
        refine lv_iinc (v := nI (sq + 1)) (lv' := [(4, .int (nI (sq + 1))), (5, .int (zI (mBits G (G 28 15 + mAt G iq ((sq : Nat) : Int)) (G 29 iq).toNat))), (0, .ref (ad (33 + 2 * iq))), (1, .long Fq), (3, .int (zI numq))]) hx hb dX4_readFrom_66 hl (k := 1) rfl (by rw [show (Int32.ofInt 1 : Int32) = nI 1 from rfl, nI_add]) (by decide) rfl (fun ls hl => ?_)
        refine lv_goto (tgt := 3) hx hb dX4_readFrom_69 (by decide) ?_
        exact ihq3 (sq + 1) (gu (gu (gu (gu Aq (33 + 2 * iq + 1) 0 (nI 1)) (33 + 2 * iq + 1) 1 (zI (gDec (G 30 iq) (G 29 iq) (mBits G (G 28 15 + mAt G iq ((sq : Nat) : Int)) (G 29 iq).toNat)))) (33 + 2 * iq + 1) 2 (zI ((64 * numq) + (mAt G iq ((sq : Nat) : Int))))) (33 + 2 * iq) 8 (zI ((G 41 iq + ((sq : Nat) : Int)) + 1))) (by omega) (PtF_read hFq rfl (by rw [hnum.1]) rfl h41.1) ((((hO.up1 _ _).up1 _ _).up1 _ _).up _ _) (by omega) _ _ _ hG (lv_sub hl [0, 2, 3, 4] rfl)
  exact LLq3 _ 0 A (by omega) hF POnly.rf (Nat.lt_succ_self _) _ _ _ hG (lv_sub hl [0, 1, 2, 3] rfl)

abbrev PX0_giveSamples (ad : Nat → Nat) (A : Nat → Nat → Int32) (J : Nat → Nat → Int64) (G : Nat → Nat → Int) (Fq : Int64) (cq : Int) : Option Value → (Nat → Nat → Int32) → (Nat → Nat → Int64) → Prop := fun v_ A1 J1 => (v_ = none ∧ J = J1 ∧ (∀ i : Nat, (i : Int) < G 28 0 → PtF A1 (mGive G cq (G 28 0).toNat 0) i) ∧ (PsOnly A A1))
set_option maxHeartbeats 4000000 in
set_option maxRecDepth 100000 in
theorem cX0_giveSamplesC (l : Launch) (D : va_G) (cy : Nat → ClassId) (base : Nat) (ad : Nat → Nat) (n : Nat) (A : Nat → Nat → Int32) (J : Nat → Nat → Int64) (G : Nat → Nat → Int) (Fq : Int64) (cq : Int) (hct : A 1 1 = nI n ∧ n ≤ 12) (hn : G 28 0 = (n : Int)) (hT : TsOk G) (hFs : ∀ i : Nat, i < n → PtF A G i) (h41 : ∀ i : Nat, 0 ≤ G 41 i ∧ G 41 i ≤ 16000) (hFr : FrR Fq G (G 28 15 + 63)) (hpa : mPast G) (hcq : A 9 3 = zI cq ∧ 0 ≤ cq ∧ cq < 256) (hnum : A 9 4 = zI (G 28 20) ∧ 0 ≤ G 28 20 ∧ G 28 20 ≤ 3000000) : gMet l yX0_giveSamples wsX0_giveSamples ({ frames := 3, cells := 0, slots := 0, locals := 67 } : Room) D cy base ad n A J [.ref (ad 9), .long Fq, .ref (ad 1)] (PX0_giveSamples ad A J G Fq cq) := by
  refine g_ofW (cc := cX0_giveSamples) (maxL := 6) (ret := none) (by decide) rfl (Nat.le_of_ble_eq_true rfl) ?_
  intro pM eM sM mM aM bM methM cM H locs ls hx hb hr hts hown hlocks hml hE hG hl
  have hl : lv_has ls 6 [(0, .ref (ad 9)), (1, .long Fq), (3, .ref (ad 1))] := hl
  have hinX0 : ∀ w ∈ u_ws RX0 TX0 5, w ∈ wsX0_giveSamples := by decide +kernel
  have hinX4 : ∀ w ∈ u_ws RX4 TX4 10, w ∈ wsX0_giveSamples := by decide +kernel
  have hinX5 : ∀ w ∈ u_ws RX5 TX5 3, w ∈ wsX0_giveSamples := by decide +kernel
  have hinX6 : ∀ w ∈ u_ws RX6 TX6 3, w ∈ wsX0_giveSamples := by decide +kernel
  refine lv_iconst (v := nI 0) hx hb dX0_giveSamples_0 (by decide) ?_
  refine lv_istore (lv' := [(4, .int (nI 0)), (0, .ref (ad 9)), (1, .long Fq), (3, .ref (ad 1))]) hx hb dX0_giveSamples_1 hl (by decide) rfl (fun ls hl => ?_)
  have LLq3 : ∀ (fuel : Nat) (pq : Nat) (Aq : Nat → Nat → Int32) (hpq : pq ≤ n) (hFq : ∀ i : Nat, i < n → PtF Aq (mGive G cq pq 0) i) (hO : PsOnly A Aq) (_ : n - pq < fuel) (H : Heap) (locs : List Loc) (ls : Array Slot), gH D base sM ad (33 + 2 * n) (gw cy ad n Aq J) H locs → lv_has ls 6 [(4, .int (nI pq)), (0, .ref (ad 9)), (1, .long Fq), (3, .ref (ad 1))] → W pM l eM ({ frames := 3, cells := 0, slots := 0, locals := 67 } : Room) sM mM aM bM methM cM H locs 0 0 (MQ bM (gPost D cy base ad n (PX0_giveSamples ad A J G Fq cq)) aM sM 0 0 (fun q => base ≤ q)) (F0 mM 3 ls []) := by
    intro fuel
    induction fuel with
    | zero => intro pq Aq hpq hFq hO hms H locs ls hG hl; exact absurd hms (Nat.not_lt_zero _)
    | succ fuel ihq3 =>
      intro pq Aq hpq hFq hO hms H locs ls hG hl
      refine lv_iload hx hb dX0_giveSamples_3 (lv_at hl 0 rfl) ?_
      refine lv_aload_n hx hb dX0_giveSamples_5 rfl (lv_at hl 3 rfl) ?_
      refine g_getN (C := RX5) (T := TX5) (NN := 3) (ci := 5) hx hb hts hinX5 hown hE hG (k := 1) (by omega) rfl rfl 1 (by decide) 3 rfl rfl (v := .int (Aq 1 1)) rfl dX0_giveSamples_6 ?_
      refine g_top (y := nI n) ((congrFun (hO 1 (by omega)) 1).trans hct.1) ?_
      refine lv_icmp_ge (tgt := 53) hx hb dX0_giveSamples_9 (by decide) (fun c9 => ?_) (fun c9 => ?_)
      · skip
        have c9 : n ≤ pq := (nI_leI (by omega) (by omega)).mp c9
        exact g_vret hx hb hr hlocks hG ⟨rfl, rfl, (fun i hi => by rw [show (G 28 0).toNat = pq from by omega]; exact hFq i (by omega)), hO⟩ dX0_giveSamples_53
      · skip
        have c9 : ¬ (n ≤ pq) := fun z9 => c9 ((nI_leI (by omega) (by omega)).mpr z9)
        have hTp := hT.2.2 pq (by omega)
        refine lv_aload_n hx hb dX0_giveSamples_12 rfl (lv_at hl 3 rfl) ?_
        refine lv_iload hx hb dX0_giveSamples_13 (lv_at hl 0 rfl) ?_
        refine g_callV (As := [.int (nI pq)]) (rest := []) (r := (RX5, TX5, 3)) ⟨hx, hb, hml, hown, hts⟩ hE hG (cX5_at_inC l D cy base ad n Aq J pq ⟨(congrFun (hO 1 (by omega)) 1).trans hct.1, hct.2⟩ (by first | assumption | omega)) (cwV 1 hts gX0_giveSamples_X5_at rfl rfl rfl (by decide +kernel) ⟨Nat.le_of_ble_eq_true rfl, Nat.le_of_ble_eq_true rfl⟩) (by omega) rfl rfl rfl hl.1 rfl (Nat.le_of_ble_eq_true rfl) dX0_giveSamples_15 ⟨Nat.zero_le _, Nat.zero_le _⟩ (fun v_ A15 J15 H locs hp hG => ?_)
        obtain ⟨rfl, rfl, rfl⟩ := hp
        refine W.eq (g2 := F0 mM 18 ls [.ref (ad (33 + 2 * pq))]) rfl ?_
        refine lv_astore (lv' := [(5, .ref (ad (33 + 2 * pq))), (4, .int (nI pq)), (0, .ref (ad 9)), (1, .long Fq), (3, .ref (ad 1))]) hx hb dX0_giveSamples_18 hl (by decide) rfl (fun ls hl => ?_)
        refine lv_aload hx hb dX0_giveSamples_20 (lv_at hl 0 rfl) ?_
        refine lv_ifnull hx hb dX0_giveSamples_22 ?_
        refine lv_aload hx hb dX0_giveSamples_25 (lv_at hl 0 rfl) ?_
        refine lv_aload_n hx hb dX0_giveSamples_27 rfl (lv_at hl 2 rfl) ?_
        refine g_get (C := RX0) (T := TX0) (NN := 5) (ci := 0) hx hb hts hinX0 hown hE hG (k := 9) (by omega) rfl rfl 3 (by decide) (hts (.fieldLink RX0 18 "Commutator$Decoder" "latestCounter" "I") (List.mem_of_getElem? (i := 1) rfl)) rfl (v := .int (Aq 9 3)) rfl dX0_giveSamples_28 ?_
        refine g_top (y := zI cq) ((congrFun (hO 9 (by omega)) 3).trans hcq.1) ?_
        refine g_callV (As := [.int (zI cq)]) (rest := []) (r := (RX4, TX4, 10)) ⟨hx, hb, hml, hown, hts⟩ hE hG (cX4_isSentInC l D cy base ad n Aq J G pq cq (by first | assumption | omega) (PtR_give (hFq pq (by omega)).1) hTp (by first | assumption | omega)) (cwV 1 hts gX0_giveSamples_X4_isSentIn rfl rfl rfl (by decide +kernel) ⟨Nat.le_of_ble_eq_true rfl, Nat.le_of_ble_eq_true rfl⟩) (by omega) (gw_pt cy ad n _ _ pq) rfl rfl hl.1 rfl (Nat.le_of_ble_eq_true rfl) dX0_giveSamples_31 ⟨Nat.zero_le _, Nat.zero_le _⟩ (fun v_ A31 J31 H locs hp hG => ?_)
        rcases hp with ⟨rfl, rfl, rfl, hC_31⟩ | ⟨rfl, rfl, rfl, hC_31⟩
        · refine W.eq (g2 := F0 mM 34 ls [.int (nI 1)]) rfl ?_
          refine lv_if_eq (tgt := 47) hx hb dX0_giveSamples_34 (by decide) (fun c34 => ?_) (fun c34 => ?_)
          · skip
            exact absurd c34 (by decide)
          · skip
            refine lv_aload hx hb dX0_giveSamples_37 (lv_at hl 0 rfl) ?_
            refine lv_lload_n hx hb dX0_giveSamples_39 rfl (lv_at hl 3 rfl) ?_
            refine lv_aload_n hx hb dX0_giveSamples_40 rfl (lv_at hl 2 rfl) ?_
            refine g_get (C := RX0) (T := TX0) (NN := 5) (ci := 0) hx hb hts hinX0 hown hE hG (k := 9) (by omega) rfl rfl 4 (by decide) (hts (.fieldLink RX0 15 "Commutator$Decoder" "latestNumber" "I") (List.mem_of_getElem? (i := 2) rfl)) rfl (v := .int (Aq 9 4)) rfl dX0_giveSamples_41 ?_
            refine g_top (y := zI (G 28 20)) ((congrFun (hO 9 (by omega)) 4).trans hnum.1) ?_
            refine g_callV (As := [.long Fq, .int (zI (G 28 20))]) (rest := []) (r := (RX4, TX4, 10)) ⟨hx, hb, hml, hown, hts⟩ hE hG (cX4_readFromC l D cy base ad n Aq J G pq Fq cq (G 28 20) (by first | assumption | omega) hTp (hFq pq (by omega)) (h41 pq) hFr hpa ⟨rfl, hnum.2⟩) (cwV 2 hts gX0_giveSamples_X4_readFrom rfl rfl rfl (by decide +kernel) ⟨Nat.le_of_ble_eq_true rfl, Nat.le_of_ble_eq_true rfl⟩) (by omega) (gw_pt cy ad n _ _ pq) rfl rfl hl.1 rfl (Nat.le_of_ble_eq_true rfl) dX0_giveSamples_44 ⟨Nat.zero_le _, Nat.zero_le _⟩ (fun v_ A44 J44 H locs hp hG => ?_)
            obtain ⟨rfl, rfl, hF1_44, hO1_44⟩ := hp
            refine W.eq (g2 := F0 mM 47 ls []) rfl ?_
            have hFq1 := Give_y hFq hC_31 (by omega) hF1_44 hO1_44
            have hO1 := hO.trans hO1_44.ps
            refine lv_iinc (v := nI (pq + 1)) (lv' := [(4, .int (nI (pq + 1))), (5, .ref (ad (33 + 2 * pq))), (0, .ref (ad 9)), (1, .long Fq), (3, .ref (ad 1))]) hx hb dX0_giveSamples_47 hl (k := 1) rfl (by rw [show (Int32.ofInt 1 : Int32) = nI 1 from rfl, nI_add]) (by decide) rfl (fun ls hl => ?_)
            refine lv_goto (tgt := 3) hx hb dX0_giveSamples_50 (by decide) ?_
            exact ihq3 (pq + 1) A44 (by omega) hFq1 hO1 (by omega) _ _ _ hG (lv_sub hl [0, 2, 3, 4] rfl)
        · refine W.eq (g2 := F0 mM 34 ls [.int (nI 0)]) rfl ?_
          have hFq1 := Give_n hFq hC_31
          have hO1 := hO
          refine lv_if_eq (tgt := 47) hx hb dX0_giveSamples_34 (by decide) (fun c34 => ?_) (fun c34 => ?_)
          · skip
            refine lv_iinc (v := nI (pq + 1)) (lv' := [(4, .int (nI (pq + 1))), (5, .ref (ad (33 + 2 * pq))), (0, .ref (ad 9)), (1, .long Fq), (3, .ref (ad 1))]) hx hb dX0_giveSamples_47 hl (k := 1) rfl (by rw [show (Int32.ofInt 1 : Int32) = nI 1 from rfl, nI_add]) (by decide) rfl (fun ls hl => ?_)
            refine lv_goto (tgt := 3) hx hb dX0_giveSamples_50 (by decide) ?_
            exact ihq3 (pq + 1) Aq (by omega) hFq1 hO1 (by omega) _ _ _ hG (lv_sub hl [0, 2, 3, 4] rfl)
          · skip
            exact absurd c34 (by decide)
  exact LLq3 _ 0 A (by omega) (Give_0 hFs) PsOnly.rf (Nat.lt_succ_self _) _ _ _ hG (lv_sub hl [0, 1, 2, 3] rfl)
