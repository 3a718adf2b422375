abbrev PX10_sample (ad : Nat → Nat) (A : Nat → Nat → Int32) (J : Nat → Nat → Int64) (G : Nat → Nat → Int) (kq eq : Nat) (sq : Int) : Option Value → (Nat → Nat → Int32) → (Nat → Nat → Int64) → Prop := fun v_ A1 J1 => (v_ = none ∧ gu (gu (gu A 39 kq (zI (mVal G kq ((eq : Nat) : Int)))) 40 kq (zI (64 * G 28 20 + mAt G kq ((eq : Nat) : Int)))) 41 kq (zI (sq + 1)) = A1 ∧ J = J1)
set_option maxHeartbeats 4000000 in
set_option maxRecDepth 100000 in
theorem cX10_sampleC (l : Launch) (D : va_G) (cy : Nat → ClassId) (base : Nat) (ad : Nat → Nat) (n : Nat) (A : Nat → Nat → Int32) (J : Nat → Nat → Int64) (G : Nat → Nat → Int) (kq eq : Nat) (sq : Int) (hM : MSt A G) (hP : ∀ j, A 38 j = zI (G 38 j)) (hb5 : A 28 15 = zI (G 28 15)) (hnu : A 28 20 = zI (G 28 20)) (hsq : A 41 kq = zI sq) (hp : mPast G) (hbg : 0 ≤ G 28 15 ∧ G 28 15 + 64 ≤ 8000) (hk : kq < 12) (hT : TOk G kq) (he : (eq : Int) < G 32 kq) (hnr : 0 ≤ G 28 20 ∧ G 28 20 ≤ 10000000) (hsr : 0 ≤ sq ∧ sq < 1000000) : gMet l yX10_sample wsX10_sample ({ frames := 1, cells := 0, slots := 0, locals := 24 } : Room) D cy base ad n A J [.ref (ad 28), .int (nI kq), .int (nI eq)] (PX10_sample ad A J G kq eq sq) := by
  refine g_ofW (cc := cX10_sample) (maxL := 4) (ret := none) (by decide) rfl (Nat.le_of_ble_eq_true rfl) ?_
  intro pM eM sM mM aM bM methM cM H locs ls hx hb hr hts hown hlocks hml hE hG hl
  have hl : lv_has ls 4 [(0, .ref (ad 28)), (1, .int (nI kq)), (2, .int (nI eq))] := hl
  have hinX10 : ∀ w ∈ u_ws RX10 TX10 35, w ∈ wsX10_sample := by decide +kernel
  have hat : mAt G kq ((eq : Nat) : Int) = 16 + G 34 kq + 24 * ((eq : Nat) : Int) := rfl
  refine lv_bipush (v := nI 16) hx hb dX10_sample_0 (by decide) ?_
  refine lv_aload_n hx hb dX10_sample_2 rfl (lv_at hl 0 rfl) ?_
  refine g_get (C := RX10) (T := TX10) (NN := 35) (ci := 10) hx hb hts hinX10 hown hE hG (k := 28) (by omega) rfl rfl 6 (by decide) (hts (.fieldLink RX10 25 "CommutatorModel" "offset" "[I") (List.mem_of_getElem? (i := 1) rfl)) rfl (v := .ref (ad 34)) rfl dX10_sample_3 ?_
  refine lv_iload_n hx hb dX10_sample_6 rfl (lv_at hl 1 rfl) ?_
  refine g_iald hx hb hE hG (k := 34) (by omega) rfl kq (rfl) (by omega) (by omega) dX10_sample_7 ?_
  refine g_top (y := zI (G 34 kq)) (hM.2 34 kq (by omega) (by omega)) ?_
  refine lv_iadd hx hb dX10_sample_8 ?_
  refine g_top (y := zI (16 + (G 34 kq))) (zI_add_ni _ _) ?_
  refine lv_bipush (v := nI 24) hx hb dX10_sample_9 (by decide) ?_
  refine lv_iload_n hx hb dX10_sample_11 rfl (lv_at hl 2 rfl) ?_
  refine lv_imul hx hb dX10_sample_12 ?_
  refine g_top (y := nI (24 * eq)) (by rw [pk_mul]) ?_
  refine lv_iadd hx hb dX10_sample_13 ?_
  refine g_top (y := zI ((16 + (G 34 kq)) + ((24 * eq : Nat) : Int))) (zI_add_in _ _) ?_
  refine g_top (y := zI (mAt G kq ((eq : Nat) : Int))) (congrArg zI (by omega)) ?_
  refine lv_istore_n (lv' := [(3, .int (zI (mAt G kq ((eq : Nat) : Int)))), (0, .ref (ad 28)), (1, .int (nI kq)), (2, .int (nI eq))]) hx hb dX10_sample_14 rfl hl (by decide) rfl (fun ls hl => ?_)
  refine lv_aload_n hx hb dX10_sample_15 rfl (lv_at hl 1 rfl) ?_
  refine g_get (C := RX10) (T := TX10) (NN := 35) (ci := 10) hx hb hts hinX10 hown hE hG (k := 28) (by omega) rfl rfl 24 (by decide) (hts (.fieldLink RX10 40 "CommutatorModel" "value" "[I") (List.mem_of_getElem? (i := 2) rfl)) rfl (v := .ref (ad 39)) rfl dX10_sample_16 ?_
  refine lv_iload_n hx hb dX10_sample_19 rfl (lv_at hl 2 rfl) ?_
  refine lv_aload_n hx hb dX10_sample_20 rfl (lv_at hl 1 rfl) ?_
  refine lv_iload_n hx hb dX10_sample_21 rfl (lv_at hl 2 rfl) ?_
  refine lv_aload_n hx hb dX10_sample_22 rfl (lv_at hl 1 rfl) ?_
  refine lv_aload_n hx hb dX10_sample_23 rfl (lv_at hl 1 rfl) ?_
  refine g_get (C := RX10) (T := TX10) (NN := 35) (ci := 10) hx hb hts hinX10 hown hE hG (k := 28) (by omega) rfl rfl 15 (by decide) (hts (.fieldLink RX10 75 "CommutatorModel" "begun" "I") (List.mem_of_getElem? (i := 3) rfl)) rfl (v := .int (A 28 15)) rfl dX10_sample_24 ?_
  refine g_top (y := zI (G 28 15)) (hb5) ?_
  refine lv_iload_n hx hb dX10_sample_27 rfl (lv_at hl 0 rfl) ?_
  refine lv_iadd hx hb dX10_sample_28 ?_
  refine g_top (y := zI ((G 28 15) + (mAt G kq ((eq : Nat) : Int)))) (zI_add _ _) ?_
  refine lv_aload_n hx hb dX10_sample_29 rfl (lv_at hl 1 rfl) ?_
  refine g_get (C := RX10) (T := TX10) (NN := 35) (ci := 10) hx hb hts hinX10 hown hE hG (k := 28) (by omega) rfl rfl 1 (by decide) (hts (.fieldLink RX10 7 "CommutatorModel" "width" "[I") (List.mem_of_getElem? (i := 4) rfl)) rfl (v := .ref (ad 29)) rfl dX10_sample_30 ?_
  refine lv_iload_n hx hb dX10_sample_33 rfl (lv_at hl 2 rfl) ?_
  refine g_iald hx hb hE hG (k := 29) (by omega) rfl kq (rfl) (by omega) (by omega) dX10_sample_34 ?_
  refine g_top (y := zI (G 29 kq)) (hM.2 29 kq (by omega) (by omega)) ?_
  refine g_top (y := nI ((G 29 kq).toNat)) (zI_nat (by omega)) ?_
  refine g_callV (As := [.int (zI ((G 28 15) + (mAt G kq ((eq : Nat) : Int)))), .int (nI ((G 29 kq).toNat))]) (rest := [.int (nI kq), .ref (ad 28), .int (nI kq), .ref (ad 39)]) (r := (RX10, TX10, 35)) ⟨hx, hb, hml, hown, hts⟩ hE hG (cX10_bitsC l D cy base ad n A J G ((G 28 15) + (mAt G kq ((eq : Nat) : Int))) ((G 29 kq).toNat) hP (by first | assumption | omega) (by first | assumption | omega) (by first | assumption | omega) (by omega)) (cwV 2 hts gX10_sample_X10_bits rfl rfl rfl (by decide +kernel) ⟨Nat.le_of_ble_eq_true rfl, Nat.le_of_ble_eq_true rfl⟩) (by omega) rfl rfl rfl hl.1 rfl (Nat.le_of_ble_eq_true rfl) dX10_sample_35 ⟨Nat.zero_le _, Nat.zero_le _⟩ (fun v_ A35 J35 H locs hp hG => ?_)
  obtain ⟨rfl, rfl, rfl⟩ := hp
  refine W.eq (g2 := F0 mM 38 ls [.int (zI (mBits G ((G 28 15) + (mAt G kq ((eq : Nat) : Int))) ((G 29 kq).toNat))), .int (nI kq), .ref (ad 28), .int (nI kq), .ref (ad 39)]) rfl ?_
  refine g_callV (As := [.int (nI kq), .int (zI (mBits G ((G 28 15) + (mAt G kq ((eq : Nat) : Int))) ((G 29 kq).toNat)))]) (rest := [.int (nI kq), .ref (ad 39)]) (r := (RX10, TX10, 35)) ⟨hx, hb, hml, hown, hts⟩ hE hG (cX10_readC l D cy base ad n A J G kq (mBits G ((G 28 15) + (mAt G kq ((eq : Nat) : Int))) ((G 29 kq).toNat)) hM (by first | assumption | omega) (by first | assumption | omega) (mBits_12 hp _ (by omega))) (cwV 2 hts gX10_sample_X10_read rfl rfl rfl (by decide +kernel) ⟨Nat.le_of_ble_eq_true rfl, Nat.le_of_ble_eq_true rfl⟩) (by omega) rfl rfl rfl hl.1 rfl (Nat.le_of_ble_eq_true rfl) dX10_sample_38 ⟨Nat.zero_le _, Nat.zero_le _⟩ (fun v_ A38 J38 H locs hp hG => ?_)
  obtain ⟨rfl, rfl, rfl⟩ := hp
  refine W.eq (g2 := F0 mM 41 ls [.int (zI (gDec (G 30 kq) (G 29 kq) (mBits G ((G 28 15) + (mAt G kq ((eq : Nat) : Int))) ((G 29 kq).toNat)))), .int (nI kq), .ref (ad 39)]) rfl ?_
  refine g_top (y := zI (mVal G kq ((eq : Nat) : Int))) (rfl) ?_
  refine g_iast hx hb hE hG (k := 39) (by omega) (fun _ => rfl) kq (rfl) (by omega) (by omega) dX10_sample_41 (fun H locs hG => ?_)
  refine lv_aload_n hx hb dX10_sample_42 rfl (lv_at hl 1 rfl) ?_
  refine g_get (C := RX10) (T := TX10) (NN := 35) (ci := 10) hx hb hts hinX10 hown hE hG (k := 28) (by omega) rfl rfl 25 (by decide) (hts (.fieldLink RX10 43 "CommutatorModel" "time" "[I") (List.mem_of_getElem? (i := 5) rfl)) rfl (v := .ref (ad 40)) rfl dX10_sample_43 ?_
  refine lv_iload_n hx hb dX10_sample_46 rfl (lv_at hl 2 rfl) ?_
  refine lv_bipush (v := nI 64) hx hb dX10_sample_47 (by decide) ?_
  refine lv_aload_n hx hb dX10_sample_49 rfl (lv_at hl 1 rfl) ?_
  refine g_get (C := RX10) (T := TX10) (NN := 35) (ci := 10) hx hb hts hinX10 hown hE hG (k := 28) (by omega) rfl rfl 20 (by decide) (hts (.fieldLink RX10 136 "CommutatorModel" "number" "I") (List.mem_of_getElem? (i := 6) rfl)) rfl (v := .int (A 28 20)) rfl dX10_sample_50 ?_
  refine g_top (y := zI (G 28 20)) (hnu) ?_
  refine lv_imul hx hb dX10_sample_53 ?_
  refine g_top (y := zI (64 * (G 28 20))) (zI_mul_ni _ _) ?_
  refine lv_iload_n hx hb dX10_sample_54 rfl (lv_at hl 0 rfl) ?_
  refine lv_iadd hx hb dX10_sample_55 ?_
  refine g_top (y := zI ((64 * (G 28 20)) + (mAt G kq ((eq : Nat) : Int)))) (zI_add _ _) ?_
  refine g_iast hx hb hE hG (k := 40) (by omega) (fun _ => rfl) kq (rfl) (by omega) (by omega) dX10_sample_56 (fun H locs hG => ?_)
  refine lv_aload_n hx hb dX10_sample_57 rfl (lv_at hl 1 rfl) ?_
  refine g_get (C := RX10) (T := TX10) (NN := 35) (ci := 10) hx hb hts hinX10 hown hE hG (k := 28) (by omega) rfl rfl 26 (by decide) (hts (.fieldLink RX10 46 "CommutatorModel" "samples" "[I") (List.mem_of_getElem? (i := 7) rfl)) rfl (v := .ref (ad 41)) rfl dX10_sample_58 ?_
  refine lv_iload_n hx hb dX10_sample_61 rfl (lv_at hl 2 rfl) ?_
  refine lv_dup2_11 hx hb dX10_sample_62 rfl rfl ?_
  refine g_iald hx hb hE hG (k := 41) (by omega) rfl kq (rfl) (by omega) (by omega) dX10_sample_63 ?_
  refine g_top (y := A 41 kq) (by first | rfl | (simp [gu_at]; done) | (rw [gu_at]; simp; omega)) ?_
  refine g_top (y := zI sq) (hsq) ?_
  refine lv_iconst (v := nI 1) hx hb dX10_sample_64 (by decide) ?_
  refine lv_iadd hx hb dX10_sample_65 ?_
  refine g_top (y := zI (sq + 1)) (zI_add_in _ _) ?_
  refine g_iast hx hb hE hG (k := 41) (by omega) (fun _ => rfl) kq (rfl) (by omega) (by omega) dX10_sample_66 (fun H locs hG => ?_)
  exact g_vret hx hb hr hlocks hG ⟨rfl, rfl, rfl⟩ dX10_sample_67

abbrev PX10_decodes (ad : Nat → Nat) (A : Nat → Nat → Int32) (J : Nat → Nat → Int64) (G : Nat → Nat → Int) : Option Value → (Nat → Nat → Int32) → (Nat → Nat → Int64) → Prop := fun v_ A1 J1 => (v_ = some (.int (nI 0)) ∧ gu A 28 23 (zI (G 28 23 + 1)) = A1 ∧ J = J1 ∧ (G 28 19 ≠ -1 ∧ mFar G = 0)) ∨ (v_ = some (.int (nI 1)) ∧ J = J1 ∧ (¬ (G 28 19 ≠ -1 ∧ mFar G = 0)) ∧ (MRep A1 (mDecG G)) ∧ (MOnly A A1) ∧ (A1 28 34 = A 28 34))
set_option maxHeartbeats 4000000 in
set_option maxRecDepth 100000 in
theorem cX10_decodesC (l : Launch) (D : va_G) (cy : Nat → ClassId) (base : Nat) (ad : Nat → Nat) (n : Nat) (A : Nat → Nat → Int32) (J : Nat → Nat → Int64) (G : Nat → Nat → Int) (hM : MRep A G) (hT : TsOk G) (hp : mPast G) (hbg : 0 ≤ G 28 15 ∧ G 28 15 + 64 ≤ 8000) (hct : mCtrOk G) (hnr : 0 ≤ G 28 20 ∧ G 28 20 ≤ 9000000) (hfr : 0 ≤ G 28 21 ∧ G 28 21 ≤ 900000) (hlo : 0 ≤ G 28 22 ∧ G 28 22 ≤ 9000000) (hre : 0 ≤ G 28 23 ∧ G 28 23 ≤ 900000) (hsa : ∀ i, 0 ≤ G 41 i ∧ G 41 i ≤ 900000) (hmi : ∀ i, 0 ≤ G 42 i ∧ G 42 i ≤ 9000000) : gMet l yX10_decodes wsX10_decodes ({ frames := 2, cells := 0, slots := 0, locals := 47 } : Room) D cy base ad n A J [.ref (ad 28)] (PX10_decodes ad A J G) := by
  refine g_ofW (cc := cX10_decodes) (maxL := 5) (ret := (some .int)) (by decide) rfl (Nat.le_of_ble_eq_true rfl) ?_
  intro pM eM sM mM aM bM methM cM H locs ls hx hb hr hts hown hlocks hml hE hG hl
  have hl : lv_has ls 5 [(0, .ref (ad 28))] := hl
  have hinX10 : ∀ w ∈ u_ws RX10 TX10 35, w ∈ wsX10_decodes := by decide +kernel
  have hkr := mK_range (G := G) hp
  have hfa := mFar_range (G := G)
  have hnn : 0 ≤ mNum G ∧ mNum G ≤ 10000000 := by simp only [mNum]; split <;> omega
  refine lv_aload_n hx hb dX10_decodes_0 rfl (lv_at hl 0 rfl) ?_
  refine lv_aload_n hx hb dX10_decodes_1 rfl (lv_at hl 0 rfl) ?_
  refine g_get (C := RX10) (T := TX10) (NN := 35) (ci := 10) hx hb hts hinX10 hown hE hG (k := 28) (by omega) rfl rfl 15 (by decide) (hts (.fieldLink RX10 75 "CommutatorModel" "begun" "I") (List.mem_of_getElem? (i := 1) rfl)) rfl (v := .int (A 28 15)) rfl dX10_decodes_2 ?_
  refine g_top (y := zI (G 28 15)) (hM 28 15 (by omega) (by omega) (by omega)) ?_
  refine lv_bipush (v := nI 8) hx hb dX10_decodes_5 (by decide) ?_
  refine lv_iadd hx hb dX10_decodes_7 ?_
  refine g_top (y := zI ((G 28 15) + 8)) (zI_add_in _ _) ?_
  refine lv_bipush (v := nI 8) hx hb dX10_decodes_8 (by decide) ?_
  refine g_callV (As := [.int (zI ((G 28 15) + 8)), .int (nI 8)]) (rest := []) (r := (RX10, TX10, 35)) ⟨hx, hb, hml, hown, hts⟩ hE hG (cX10_bitsC l D cy base ad n A J G ((G 28 15) + 8) 8 (by first | exact hP | exact hM.1 | exact hM.pa.1 | exact (hM.th _).1 | exact (hM.th _).pa.1) (by first | assumption | omega) (by first | assumption | omega) (by first | assumption | omega) (by first | assumption | omega)) (cwV 2 hts gX10_decodes_X10_bits rfl rfl rfl (by decide +kernel) ⟨Nat.le_of_ble_eq_true rfl, Nat.le_of_ble_eq_true rfl⟩) (by omega) rfl rfl rfl hl.1 rfl (Nat.le_of_ble_eq_true rfl) dX10_decodes_10 ⟨Nat.zero_le _, Nat.zero_le _⟩ (fun v_ A10 J10 H locs hp hG => ?_)
  obtain ⟨rfl, rfl, rfl⟩ := hp
  refine W.eq (g2 := F0 mM 13 ls [.int (zI (mBits G ((G 28 15) + 8) 8))]) rfl ?_
  refine g_top (y := zI (mK G)) (rfl) ?_
  refine lv_istore_n (lv' := [(1, .int (zI (mK G))), (0, .ref (ad 28))]) hx hb dX10_decodes_13 rfl hl (by decide) rfl (fun ls hl => ?_)
  have LLq40 : ∀  (fq : Int) (hfq : fq = mFar G) (H : Heap) (locs : List Loc) (ls : Array Slot), gH D base sM ad (50 + 2 * n) (gw cy ad n A J) H locs → lv_has ls 5 [(1, .int (zI (mK G))), (0, .ref (ad 28))] → W pM l eM ({ frames := 2, cells := 0, slots := 0, locals := 47 } : Room) sM mM aM bM methM cM H locs 0 0 (MQ bM (gPost D cy base ad n (PX10_decodes ad A J G)) aM sM 0 0 (fun q => base ≤ q)) (F0 mM 40 ls [.int (zI fq)]) := by
    intro fq hfq H locs ls hG hl
    subst hfq
    refine lv_istore_n (lv' := [(2, .int (zI (mFar G))), (1, .int (zI (mK G))), (0, .ref (ad 28))]) hx hb dX10_decodes_40 rfl hl (by decide) rfl (fun ls hl => ?_)
    have LLq65 : ∀   (hnrp : ¬ (G 28 19 ≠ -1 ∧ mFar G = 0)) (H : Heap) (locs : List Loc) (ls : Array Slot), gH D base sM ad (50 + 2 * n) (gw cy ad n A J) H locs → lv_has ls 5 [(2, .int (zI (mFar G))), (1, .int (zI (mK G))), (0, .ref (ad 28))] → W pM l eM ({ frames := 2, cells := 0, slots := 0, locals := 47 } : Room) sM mM aM bM methM cM H locs 0 0 (MQ bM (gPost D cy base ad n (PX10_decodes ad A J G)) aM sM 0 0 (fun q => base ≤ q)) (F0 mM 65 ls []) := by
      intro hnrp H locs ls hG hl
      refine lv_iconst (v := nI 1) hx hb dX10_decodes_65 (by decide) ?_
      refine lv_istore_n (lv' := [(3, .int (nI 1)), (2, .int (zI (mFar G))), (1, .int (zI (mK G))), (0, .ref (ad 28))]) hx hb dX10_decodes_66 rfl hl (by decide) rfl (fun ls hl => ?_)
      have LLq67 : ∀ (fuel : Nat) (qq : Nat) (Aq : Nat → Nat → Int32) (hq : qq = 0 ∨ ((qq : Nat) : Int) + 1 ≤ mFar G) (hR : MRep Aq (mMissI G qq 0)) (hO : MOnly A Aq) (hth : Aq 28 34 = A 28 34) (_ : (256 - qq) < fuel) (H : Heap) (locs : List Loc) (ls : Array Slot), gH D base sM ad (50 + 2 * n) (gw cy ad n Aq J) H locs → lv_has ls 5 [(0, .ref (ad 28)), (1, .int (zI (mK G))), (2, .int (zI (mFar G))), (3, .int (nI (qq + 1)))] → W pM l eM ({ frames := 2, cells := 0, slots := 0, locals := 47 } : Room) sM mM aM bM methM cM H locs 0 0 (MQ bM (gPost D cy base ad n (PX10_decodes ad A J G)) aM sM 0 0 (fun q => base ≤ q)) (F0 mM 67 ls []) := by
        intro fuel
        induction fuel with
        | zero => intro qq Aq hq hR hO hth hms H locs ls hG hl; exact absurd hms (Nat.not_lt_zero _)
        | succ fuel ihq67 =>
          intro qq Aq hq hR hO hth hms H locs ls hG hl
          refine lv_iload_n hx hb dX10_decodes_67 rfl (lv_at hl 3 rfl) ?_
          refine lv_iload_n hx hb dX10_decodes_68 rfl (lv_at hl 2 rfl) ?_
          refine lv_icmp_ge (tgt := 146) hx hb dX10_decodes_69 (by decide) (fun c69 => ?_) (fun c69 => ?_)
          · skip
            have c69 : (mFar G) ≤ ((qq + 1 : Nat) : Int) := (cmp_le (zI_toInt (by omega) (by omega)) (nI_toInt (by omega))).mp c69
            have hq9 : qq = (mFar G - 1).toNat := by omega
            subst hq9
            refine lv_aload_n hx hb dX10_decodes_146 rfl (lv_at hl 0 rfl) ?_
            have LLq165 : ∀  (nq : Int) (hnq : nq = mNum G) (H : Heap) (locs : List Loc) (ls : Array Slot), gH D base sM ad (50 + 2 * n) (gw cy ad n Aq J) H locs → lv_has ls 5 [(0, .ref (ad 28)), (1, .int (zI (mK G))), (2, .int (zI (mFar G))), (3, .int (nI (((mFar G - 1).toNat) + 1)))] → W pM l eM ({ frames := 2, cells := 0, slots := 0, locals := 47 } : Room) sM mM aM bM methM cM H locs 0 0 (MQ bM (gPost D cy base ad n (PX10_decodes ad A J G)) aM sM 0 0 (fun q => base ≤ q)) (F0 mM 165 ls [.int (zI nq), .ref (ad 28)]) := by
              intro nq hnq H locs ls hG hl
              subst hnq
              refine g_puti (C := RX10) (T := TX10) (NN := 35) (ci := 10) hx hb hts hinX10 tyX10 tyX10_ok nmX10 hown hE hG (k := 28) (by omega) rfl rfl 20 (by decide) (hts (.fieldLink RX10 136 "CommutatorModel" "number" "I") (List.mem_of_getElem? (i := 8) rfl)) rfl rfl (ty := .int) (v := zI (mNum G)) (by decide +kernel) rfl rfl (Nat.le_of_ble_eq_true rfl) rfl dX10_decodes_165 (fun H locs hG => ?_)
              refine lv_aload_n hx hb dX10_decodes_168 rfl (lv_at hl 0 rfl) ?_
              refine lv_iload_n hx hb dX10_decodes_169 rfl (lv_at hl 1 rfl) ?_
              refine g_puti (C := RX10) (T := TX10) (NN := 35) (ci := 10) hx hb hts hinX10 tyX10 tyX10_ok nmX10 hown hE hG (k := 28) (by omega) rfl rfl 19 (by decide) (hts (.fieldLink RX10 71 "CommutatorModel" "counter" "I") (List.mem_of_getElem? (i := 2) rfl)) rfl rfl (ty := .int) (v := zI (mK G)) (by decide +kernel) rfl rfl (Nat.le_of_ble_eq_true rfl) rfl dX10_decodes_170 (fun H locs hG => ?_)
              refine lv_aload_n hx hb dX10_decodes_173 rfl (lv_at hl 0 rfl) ?_
              refine lv_dup hx hb dX10_decodes_174 rfl ?_
              refine g_get (C := RX10) (T := TX10) (NN := 35) (ci := 10) hx hb hts hinX10 hown hE hG (k := 28) (by omega) rfl rfl 21 (by decide) (hts (.fieldLink RX10 145 "CommutatorModel" "frames" "I") (List.mem_of_getElem? (i := 9) rfl)) rfl (v := .int (Aq 28 21)) rfl dX10_decodes_175 ?_
              refine g_top (y := zI (G 28 21)) (hR 28 21 (by omega) (by omega) (by omega)) ?_
              refine lv_iconst (v := nI 1) hx hb dX10_decodes_178 (by decide) ?_
              refine lv_iadd hx hb dX10_decodes_179 ?_
              refine g_top (y := zI ((G 28 21) + 1)) (zI_add_in _ _) ?_
              refine g_puti (C := RX10) (T := TX10) (NN := 35) (ci := 10) hx hb hts hinX10 tyX10 tyX10_ok nmX10 hown hE hG (k := 28) (by omega) rfl rfl 21 (by decide) (hts (.fieldLink RX10 145 "CommutatorModel" "frames" "I") (List.mem_of_getElem? (i := 9) rfl)) rfl rfl (ty := .int) (v := zI ((G 28 21) + 1)) (by decide +kernel) rfl rfl (Nat.le_of_ble_eq_true rfl) rfl dX10_decodes_180 (fun H locs hG => ?_)
              refine lv_iconst (v := nI 0) hx hb dX10_decodes_183 (by decide) ?_
              refine lv_istore_n (lv' := [(3, .int (nI 0)), (0, .ref (ad 28)), (1, .int (zI (mK G))), (2, .int (zI (mFar G)))]) hx hb dX10_decodes_184 rfl hl (by decide) rfl (fun ls hl => ?_)
              have LLq185 : ∀ (fuel : Nat) (pq : Nat) (Bq : Nat → Nat → Int32) (hpq : (pq : Int) ≤ G 28 0) (hR2 : MRep Bq (mGive (mDec1 G) (mK G) pq 0)) (hO2 : MOnly A Bq) (hth2 : Bq 28 34 = A 28 34) (_ : (12 - pq) < fuel) (H : Heap) (locs : List Loc) (ls : Array Slot), gH D base sM ad (50 + 2 * n) (gw cy ad n Bq J) H locs → lv_has ls 5 [(0, .ref (ad 28)), (1, .int (zI (mK G))), (2, .int (zI (mFar G))), (3, .int (nI pq))] → W pM l eM ({ frames := 2, cells := 0, slots := 0, locals := 47 } : Room) sM mM aM bM methM cM H locs 0 0 (MQ bM (gPost D cy base ad n (PX10_decodes ad A J G)) aM sM 0 0 (fun q => base ≤ q)) (F0 mM 185 ls []) := by
                intro fuel
                induction fuel with
                | zero => intro pq Bq hpq hR2 hO2 hth2 hms H locs ls hG hl; exact absurd hms (Nat.not_lt_zero _)
                | succ fuel ihq185 =>
                  intro pq Bq hpq hR2 hO2 hth2 hms H locs ls hG hl
                  refine lv_iload_n hx hb dX10_decodes_185 rfl (lv_at hl 3 rfl) ?_
                  refine lv_aload_n hx hb dX10_decodes_186 rfl (lv_at hl 0 rfl) ?_
                  refine g_get (C := RX10) (T := TX10) (NN := 35) (ci := 10) hx hb hts hinX10 hown hE hG (k := 28) (by omega) rfl rfl 0 (by decide) (hts (.fieldLink RX10 81 "CommutatorModel" "points" "I") (List.mem_of_getElem? (i := 4) rfl)) rfl (v := .int (Bq 28 0)) rfl dX10_decodes_187 ?_
                  refine g_top (y := zI (G 28 0)) (hR2 28 0 (by omega) (by omega) (by omega)) ?_
                  refine lv_icmp_ge (tgt := 235) hx hb dX10_decodes_190 (by decide) (fun c190 => ?_) (fun c190 => ?_)
                  · skip
                    have c190 : (G 28 0) ≤ ((pq : Nat) : Int) := (cmp_le (zI_toInt (by omega) (by omega)) (nI_toInt (by omega))).mp c190
                    refine lv_iconst (v := nI 1) hx hb dX10_decodes_235 (by decide) ?_
                    exact g_iret hx hb hr hlocks hG (Or.inr ⟨rfl, rfl, by omega, (by unfold mDecG; rw [show (G 28 0).toNat = pq by omega]; exact hR2), hO2, hth2⟩) dX10_decodes_236
                  · skip
                    have c190 : ¬ ((G 28 0) ≤ ((pq : Nat) : Int)) := fun z9 => c190 ((cmp_le (zI_toInt (by omega) (by omega)) (nI_toInt (by omega))).mpr z9)
                    have hTp := hT.2.2 pq (by omega)
                    refine lv_iconst (v := nI 0) hx hb dX10_decodes_193 (by decide) ?_
                    refine lv_istore (lv' := [(4, .int (nI 0)), (0, .ref (ad 28)), (1, .int (zI (mK G))), (2, .int (zI (mFar G))), (3, .int (nI pq))]) hx hb dX10_decodes_194 hl (by decide) rfl (fun ls hl => ?_)
                    have LLq196 : ∀ (fuel : Nat) (eq : Nat) (Bq : Nat → Nat → Int32) (he : (eq : Int) ≤ G 32 pq) (hes : eq = 0 ∨ mK G % G 31 pq = G 33 pq) (hR2 : MRep Bq (mGive (mDec1 G) (mK G) pq eq)) (hO2 : MOnly A Bq) (hth2 : Bq 28 34 = A 28 34) (_ : (3 - eq) < fuel) (H : Heap) (locs : List Loc) (ls : Array Slot), gH D base sM ad (50 + 2 * n) (gw cy ad n Bq J) H locs → lv_has ls 5 [(0, .ref (ad 28)), (1, .int (zI (mK G))), (2, .int (zI (mFar G))), (3, .int (nI pq)), (4, .int (nI eq))] → W pM l eM ({ frames := 2, cells := 0, slots := 0, locals := 47 } : Room) sM mM aM bM methM cM H locs 0 0 (MQ bM (gPost D cy base ad n (PX10_decodes ad A J G)) aM sM 0 0 (fun q => base ≤ q)) (F0 mM 196 ls []) := by
                      intro fuel
                      induction fuel with
                      | zero => intro eq Bq he hes hR2 hO2 hth2 hms H locs ls hG hl; exact absurd hms (Nat.not_lt_zero _)
                      | succ fuel ihq196 =>
                        intro eq Bq he hes hR2 hO2 hth2 hms H locs ls hG hl
                        refine lv_iload hx hb dX10_decodes_196 (lv_at hl 4 rfl) ?_
                        refine lv_aload_n hx hb dX10_decodes_198 rfl (lv_at hl 0 rfl) ?_
                        refine g_get (C := RX10) (T := TX10) (NN := 35) (ci := 10) hx hb hts hinX10 hown hE hG (k := 28) (by omega) rfl rfl 4 (by decide) (hts (.fieldLink RX10 19 "CommutatorModel" "samplesEach" "[I") (List.mem_of_getElem? (i := 6) rfl)) rfl (v := .ref (ad 32)) rfl dX10_decodes_199 ?_
                        refine lv_iload_n hx hb dX10_decodes_202 rfl (lv_at hl 3 rfl) ?_
                        refine g_iald hx hb hE hG (k := 32) (by omega) rfl pq (rfl) (by omega) (by omega) dX10_decodes_203 ?_
                        refine g_top (y := zI (G 32 pq)) (hR2 32 pq (by omega) (by omega) (by omega)) ?_
                        refine lv_icmp_ge (tgt := 229) hx hb dX10_decodes_204 (by decide) (fun c204 => ?_) (fun c204 => ?_)
                        · skip
                          have c204 : (G 32 pq) ≤ ((eq : Nat) : Int) := (cmp_le (zI_toInt (by omega) (by omega)) (nI_toInt (by omega))).mp c204
                          refine lv_iinc (v := nI (pq + 1)) (lv' := [(3, .int (nI (pq + 1))), (0, .ref (ad 28)), (1, .int (zI (mK G))), (2, .int (zI (mFar G))), (4, .int (nI eq))]) hx hb dX10_decodes_229 hl (k := 3) rfl (by rw [show (Int32.ofInt 1 : Int32) = nI 1 from rfl, nI_add]) (by decide) rfl (fun ls hl => ?_)
                          refine lv_goto (tgt := 185) hx hb dX10_decodes_232 (by decide) ?_
                          exact ihq185 (pq + 1) Bq (by omega) (hR2.to (fun k9 j9 _ _ => mGive_p (G := mDec1 G) (c := mK G) (p := pq) (e := eq) (show (mK G % G 31 pq = G 33 pq ∧ (eq : Int) = G 32 pq ∧ 0 < eq) ∨ (¬ mK G % G 31 pq = G 33 pq ∧ eq = 0) by omega) k9 j9)) hO2 hth2 (by omega) _ _ _ hG (lv_sub hl [1, 2, 3, 0] rfl)
                        · skip
                          have c204 : ¬ ((G 32 pq) ≤ ((eq : Nat) : Int)) := fun z9 => c204 ((cmp_le (zI_toInt (by omega) (by omega)) (nI_toInt (by omega))).mpr z9)
                          refine lv_aload_n hx hb dX10_decodes_207 rfl (lv_at hl 0 rfl) ?_
                          refine lv_iload_n hx hb dX10_decodes_208 rfl (lv_at hl 3 rfl) ?_
                          refine lv_iload_n hx hb dX10_decodes_209 rfl (lv_at hl 1 rfl) ?_
                          refine g_callV (As := [.int (nI pq), .int (zI (mK G))]) (rest := []) (r := (RX10, TX10, 35)) ⟨hx, hb, hml, hown, hts⟩ hE hG (cX10_isSentC l D cy base ad n Bq J (mDec1 G) pq (mK G) (hR2.stGive : MSt Bq (mDec1 G)) (by first | assumption | omega) (hT.2.2 pq (by omega) : TOk G pq) (by first | assumption | omega) (by first | assumption | omega)) (cwV 2 hts gX10_decodes_X10_isSent rfl rfl rfl (by decide +kernel) ⟨Nat.le_of_ble_eq_true rfl, Nat.le_of_ble_eq_true rfl⟩) (by omega) rfl rfl rfl hl.1 rfl (Nat.le_of_ble_eq_true rfl) dX10_decodes_210 ⟨Nat.zero_le _, Nat.zero_le _⟩ (fun v_ A210 J210 H locs hp hG => ?_)
                          rcases hp with ⟨rfl, rfl, rfl, hC_210⟩ | ⟨rfl, rfl, rfl, hC_210⟩
                          · refine W.eq (g2 := F0 mM 213 ls [.int (nI 1)]) rfl ?_
                            have hC_210 : mK G % G 31 pq = G 33 pq := hC_210
                            refine lv_if_eq (tgt := 229) hx hb dX10_decodes_213 (by decide) (fun c213 => ?_) (fun c213 => ?_)
                            · skip
                              exact absurd c213 (by decide)
                            · skip
                              refine lv_aload_n hx hb dX10_decodes_216 rfl (lv_at hl 0 rfl) ?_
                              refine lv_iload_n hx hb dX10_decodes_217 rfl (lv_at hl 3 rfl) ?_
                              refine lv_iload hx hb dX10_decodes_218 (lv_at hl 4 rfl) ?_
                              refine g_callV (As := [.int (nI pq), .int (nI eq)]) (rest := []) (r := (RX10, TX10, 35)) ⟨hx, hb, hml, hown, hts⟩ hE hG (cX10_sampleC l D cy base ad n Bq J (mDec1 G) pq eq (G 41 pq + ((eq : Nat) : Int)) hR2.stGive (fun j9 => hR2 38 j9 (by omega) (by omega) (by omega)) (hR2 28 15 (by omega) (by omega) (by omega)) (hR2 28 20 (by omega) (by omega) (by omega)) ((hR2 41 pq (by omega) (by omega) (by omega)).trans (congrArg zI (mGive_41 (mDec1 G) (mK G) pq eq))) hp hbg (by omega) hTp (show ((eq : Nat) : Int) < G 32 pq by omega) hnn (by have h9 := hsa pq; omega)) (cwV 2 hts gX10_decodes_X10_sample rfl rfl rfl (by decide +kernel) ⟨Nat.le_of_ble_eq_true rfl, Nat.le_of_ble_eq_true rfl⟩) (by omega) rfl rfl rfl hl.1 rfl (Nat.le_of_ble_eq_true rfl) dX10_decodes_220 ⟨Nat.zero_le _, Nat.zero_le _⟩ (fun v_ A220 J220 H locs hp hG => ?_)
                              obtain ⟨rfl, rfl, rfl⟩ := hp
                              refine W.eq (g2 := F0 mM 223 ls []) rfl ?_
                              refine lv_iinc (v := nI (eq + 1)) (lv' := [(4, .int (nI (eq + 1))), (0, .ref (ad 28)), (1, .int (zI (mK G))), (2, .int (zI (mFar G))), (3, .int (nI pq))]) hx hb dX10_decodes_223 hl (k := 4) rfl (by rw [show (Int32.ofInt 1 : Int32) = nI 1 from rfl, nI_add]) (by decide) rfl (fun ls hl => ?_)
                              refine lv_goto (tgt := 196) hx hb dX10_decodes_226 (by decide) ?_
                              exact ihq196 (eq + 1) (gu (gu (gu Bq 39 pq (zI (mVal (mDec1 G) pq ((eq : Nat) : Int)))) 40 pq (zI (64 * (mDec1 G) 28 20 + mAt (mDec1 G) pq ((eq : Nat) : Int)))) 41 pq (zI ((G 41 pq + ((eq : Nat) : Int)) + 1))) (by omega) (by omega) (mGive_e hR2 rfl rfl rfl) (((hO2.up _ _ (by decide) (by decide)).up _ _ (by decide) (by decide)).up _ _ (by decide) (by decide)) (by rw [gu_at, if_neg (by omega), gu_at, if_neg (by omega), gu_at, if_neg (by omega)]; exact hth2) (by omega) _ _ _ hG (lv_sub hl [1, 2, 3, 4, 0] rfl)
                          · refine W.eq (g2 := F0 mM 213 ls [.int (nI 0)]) rfl ?_
                            have hC_210 : ¬ mK G % G 31 pq = G 33 pq := hC_210
                            refine lv_if_eq (tgt := 229) hx hb dX10_decodes_213 (by decide) (fun c213 => ?_) (fun c213 => ?_)
                            · skip
                              refine lv_iinc (v := nI (pq + 1)) (lv' := [(3, .int (nI (pq + 1))), (0, .ref (ad 28)), (1, .int (zI (mK G))), (2, .int (zI (mFar G))), (4, .int (nI eq))]) hx hb dX10_decodes_229 hl (k := 3) rfl (by rw [show (Int32.ofInt 1 : Int32) = nI 1 from rfl, nI_add]) (by decide) rfl (fun ls hl => ?_)
                              refine lv_goto (tgt := 185) hx hb dX10_decodes_232 (by decide) ?_
                              exact ihq185 (pq + 1) Bq (by omega) (hR2.to (fun k9 j9 _ _ => mGive_p (G := mDec1 G) (c := mK G) (p := pq) (e := eq) (show (mK G % G 31 pq = G 33 pq ∧ (eq : Int) = G 32 pq ∧ 0 < eq) ∨ (¬ mK G % G 31 pq = G 33 pq ∧ eq = 0) by omega) k9 j9)) hO2 hth2 (by omega) _ _ _ hG (lv_sub hl [1, 2, 3, 0] rfl)
                            · skip
                              exact absurd c213 (by decide)
                    exact LLq196 _ 0 Bq (by omega) (by omega) hR2 hO2 hth2 (Nat.lt_succ_self _) _ _ _ hG (lv_sub hl [1, 2, 3, 4, 0] rfl)
              exact LLq185 _ 0 (gu (gu (gu Aq 28 20 (zI (mNum G))) 28 19 (zI (mK G))) 28 21 (zI ((G 28 21) + 1))) (by omega) (MRep.to (((hR.up 28 20 (mNum G)).up 28 19 (mK G)).up 28 21 (G 28 21 + 1) : MRep _ (mDec1 G)) (fun k9 j9 _ _ => mGive_0 (mDec1 G) (mK G) k9 j9)) (((hO.up _ _ (by decide) (by decide)).up _ _ (by decide) (by decide)).up _ _ (by decide) (by decide)) (by rw [gu_at, if_neg (by omega), gu_at, if_neg (by omega), gu_at, if_neg (by omega)]; exact hth) (Nat.lt_succ_self _) _ _ _ hG (lv_sub hl [1, 2, 3, 0] rfl)
            refine lv_aload_n hx hb dX10_decodes_147 rfl (lv_at hl 0 rfl) ?_
            refine g_get (C := RX10) (T := TX10) (NN := 35) (ci := 10) hx hb hts hinX10 hown hE hG (k := 28) (by omega) rfl rfl 19 (by decide) (hts (.fieldLink RX10 71 "CommutatorModel" "counter" "I") (List.mem_of_getElem? (i := 2) rfl)) rfl (v := .int (Aq 28 19)) rfl dX10_decodes_148 ?_
            refine g_top (y := zI (G 28 19)) (hR 28 19 (by omega) (by omega) (by omega)) ?_
            refine lv_iconst (v := zI (-1)) hx hb dX10_decodes_151 (by decide) ?_
            refine lv_icmp_ne (tgt := 159) hx hb dX10_decodes_152 (by decide) (fun c152 => ?_) (fun c152 => ?_)
            · skip
              have c152 : ¬ ((G 28 19) = (-1)) := fun z9 => c152 ((cmp_eq (zI_toInt (by omega) (by omega)) (zI_toInt (by omega) (by omega))).mpr z9)
              refine lv_aload_n hx hb dX10_decodes_159 rfl (lv_at hl 0 rfl) ?_
              refine g_get (C := RX10) (T := TX10) (NN := 35) (ci := 10) hx hb hts hinX10 hown hE hG (k := 28) (by omega) rfl rfl 20 (by decide) (hts (.fieldLink RX10 136 "CommutatorModel" "number" "I") (List.mem_of_getElem? (i := 8) rfl)) rfl (v := .int (Aq 28 20)) rfl dX10_decodes_160 ?_
              refine g_top (y := zI (G 28 20)) (hR 28 20 (by omega) (by omega) (by omega)) ?_
              refine lv_iload_n hx hb dX10_decodes_163 rfl (lv_at hl 2 rfl) ?_
              refine lv_iadd hx hb dX10_decodes_164 ?_
              refine g_top (y := zI ((G 28 20) + (mFar G))) (zI_add _ _) ?_
              exact LLq165 ((G 28 20) + (mFar G)) (by simp only [mNum]; first | (exfalso; omega) | rw [if_pos (by omega)] | rw [if_neg (by omega)]) _ _ _ hG (lv_sub hl [0, 1, 2, 3] rfl)
            · skip
              have c152 : (G 28 19) = (-1) := (cmp_eq (zI_toInt (by omega) (by omega)) (zI_toInt (by omega) (by omega))).mp c152
              refine lv_iload_n hx hb dX10_decodes_155 rfl (lv_at hl 1 rfl) ?_
              refine lv_goto (tgt := 165) hx hb dX10_decodes_156 (by decide) ?_
              exact LLq165 (mK G) (by simp only [mNum]; first | (exfalso; omega) | rw [if_pos (by omega)] | rw [if_neg (by omega)]) _ _ _ hG (lv_sub hl [0, 1, 2, 3] rfl)
          · skip
            have c69 : ¬ ((mFar G) ≤ ((qq + 1 : Nat) : Int)) := fun z9 => c69 ((cmp_le (zI_toInt (by omega) (by omega)) (nI_toInt (by omega))).mpr z9)
            have hq8 : (qq : Int) ≤ 254 := by omega
            refine lv_iconst (v := nI 0) hx hb dX10_decodes_72 (by decide) ?_
            refine lv_istore (lv' := [(4, .int (nI 0)), (0, .ref (ad 28)), (1, .int (zI (mK G))), (2, .int (zI (mFar G))), (3, .int (nI (qq + 1)))]) hx hb dX10_decodes_73 hl (by decide) rfl (fun ls hl => ?_)
            have LLq75 : ∀ (fuel : Nat) (pq : Nat) (Aq : Nat → Nat → Int32) (hpq : (pq : Int) ≤ G 28 0) (hR : MRep Aq (mMissI G qq pq)) (hO : MOnly A Aq) (hth : Aq 28 34 = A 28 34) (_ : (12 - pq) < fuel) (H : Heap) (locs : List Loc) (ls : Array Slot), gH D base sM ad (50 + 2 * n) (gw cy ad n Aq J) H locs → lv_has ls 5 [(0, .ref (ad 28)), (1, .int (zI (mK G))), (2, .int (zI (mFar G))), (3, .int (nI (qq + 1))), (4, .int (nI pq))] → W pM l eM ({ frames := 2, cells := 0, slots := 0, locals := 47 } : Room) sM mM aM bM methM cM H locs 0 0 (MQ bM (gPost D cy base ad n (PX10_decodes ad A J G)) aM sM 0 0 (fun q => base ≤ q)) (F0 mM 75 ls []) := by
              intro fuel
              induction fuel with
              | zero => intro pq Aq hpq hR hO hth hms H locs ls hG hl; exact absurd hms (Nat.not_lt_zero _)
              | succ fuel ihq75 =>
                intro pq Aq hpq hR hO hth hms H locs ls hG hl
                refine lv_iload hx hb dX10_decodes_75 (lv_at hl 4 rfl) ?_
                refine lv_aload_n hx hb dX10_decodes_77 rfl (lv_at hl 0 rfl) ?_
                refine g_get (C := RX10) (T := TX10) (NN := 35) (ci := 10) hx hb hts hinX10 hown hE hG (k := 28) (by omega) rfl rfl 0 (by decide) (hts (.fieldLink RX10 81 "CommutatorModel" "points" "I") (List.mem_of_getElem? (i := 4) rfl)) rfl (v := .int (Aq 28 0)) rfl dX10_decodes_78 ?_
                refine g_top (y := zI (G 28 0)) (hR 28 0 (by omega) (by omega) (by omega)) ?_
                refine lv_icmp_ge (tgt := 130) hx hb dX10_decodes_81 (by decide) (fun c81 => ?_) (fun c81 => ?_)
                · skip
                  have c81 : (G 28 0) ≤ ((pq : Nat) : Int) := (cmp_le (zI_toInt (by omega) (by omega)) (nI_toInt (by omega))).mp c81
                  refine lv_aload_n hx hb dX10_decodes_130 rfl (lv_at hl 0 rfl) ?_
                  refine lv_dup hx hb dX10_decodes_131 rfl ?_
                  refine g_get (C := RX10) (T := TX10) (NN := 35) (ci := 10) hx hb hts hinX10 hown hE hG (k := 28) (by omega) rfl rfl 22 (by decide) (hts (.fieldLink RX10 142 "CommutatorModel" "lost" "I") (List.mem_of_getElem? (i := 7) rfl)) rfl (v := .int (Aq 28 22)) rfl dX10_decodes_132 ?_
                  refine g_top (y := zI (G 28 22 + ((qq : Nat) : Int))) (hR 28 22 (by omega) (by omega) (by omega)) ?_
                  refine lv_iconst (v := nI 1) hx hb dX10_decodes_135 (by decide) ?_
                  refine lv_iadd hx hb dX10_decodes_136 ?_
                  refine g_top (y := zI ((G 28 22 + ((qq : Nat) : Int)) + 1)) (zI_add_in _ _) ?_
                  refine g_puti (C := RX10) (T := TX10) (NN := 35) (ci := 10) hx hb hts hinX10 tyX10 tyX10_ok nmX10 hown hE hG (k := 28) (by omega) rfl rfl 22 (by decide) (hts (.fieldLink RX10 142 "CommutatorModel" "lost" "I") (List.mem_of_getElem? (i := 7) rfl)) rfl rfl (ty := .int) (v := zI ((G 28 22 + ((qq : Nat) : Int)) + 1)) (by decide +kernel) rfl rfl (Nat.le_of_ble_eq_true rfl) rfl dX10_decodes_137 (fun H locs hG => ?_)
                  refine lv_iinc (v := nI (qq + 1 + 1)) (lv' := [(3, .int (nI (qq + 1 + 1))), (0, .ref (ad 28)), (1, .int (zI (mK G))), (2, .int (zI (mFar G))), (4, .int (nI pq))]) hx hb dX10_decodes_140 hl (k := 3) rfl (by rw [show (Int32.ofInt 1 : Int32) = nI 1 from rfl, nI_add]) (by decide) rfl (fun ls hl => ?_)
                  refine lv_goto (tgt := 67) hx hb dX10_decodes_143 (by decide) ?_
                  exact ihq67 (qq + 1) (gu Aq 28 22 (zI ((G 28 22 + ((qq : Nat) : Int)) + 1))) (by omega) (mMissI_q hR (by omega) (by omega)) (hO.up _ _ (by decide) (by decide)) (by rw [gu_at, if_neg (by omega)]; exact hth) (by omega) _ _ _ hG (lv_sub hl [1, 2, 3, 0] rfl)
                · skip
                  have c81 : ¬ ((G 28 0) ≤ ((pq : Nat) : Int)) := fun z9 => c81 ((cmp_le (zI_toInt (by omega) (by omega)) (nI_toInt (by omega))).mpr z9)
                  have hTp := hT.2.2 pq (by omega)
                  have hmr := mMi_range (G := G) (i := pq) (by omega) qq
                  have hm0 := hmi pq
                  refine lv_aload_n hx hb dX10_decodes_84 rfl (lv_at hl 0 rfl) ?_
                  refine g_get (C := RX10) (T := TX10) (NN := 35) (ci := 10) hx hb hts hinX10 hown hE hG (k := 28) (by omega) rfl rfl 27 (by decide) (hts (.fieldLink RX10 49 "CommutatorModel" "missing" "[I") (List.mem_of_getElem? (i := 5) rfl)) rfl (v := .ref (ad 42)) rfl dX10_decodes_85 ?_
                  refine lv_iload hx hb dX10_decodes_88 (lv_at hl 4 rfl) ?_
                  refine lv_dup2_11 hx hb dX10_decodes_90 rfl rfl ?_
                  refine g_iald hx hb hE hG (k := 42) (by omega) rfl pq (rfl) (by omega) (by omega) dX10_decodes_91 ?_
                  refine g_top (y := zI (mMi G pq qq)) ((hR 42 pq (by omega) (by omega) (by omega)).trans (congrArg zI (mMissI_42 (by omega)))) ?_
                  have LLq122 : ∀  (xq : Int) (hxq : xq = if (G 28 19 + ((qq + 1 : Nat) : Int)) % 256 % G 31 pq = G 33 pq then G 32 pq else 0) (H : Heap) (locs : List Loc) (ls : Array Slot), gH D base sM ad (50 + 2 * n) (gw cy ad n Aq J) H locs → lv_has ls 5 [(0, .ref (ad 28)), (1, .int (zI (mK G))), (2, .int (zI (mFar G))), (3, .int (nI (qq + 1))), (4, .int (nI pq))] → W pM l eM ({ frames := 2, cells := 0, slots := 0, locals := 47 } : Room) sM mM aM bM methM cM H locs 0 0 (MQ bM (gPost D cy base ad n (PX10_decodes ad A J G)) aM sM 0 0 (fun q => base ≤ q)) (F0 mM 122 ls [.int (zI xq), .int (zI (mMi G pq qq)), .int (nI pq), .ref (ad 42)]) := by
                    intro xq hxq H locs ls hG hl
                    subst hxq
                    have hxr : 0 ≤ (if (G 28 19 + ((qq + 1 : Nat) : Int)) % 256 % G 31 pq = G 33 pq then G 32 pq else 0) ∧ (if (G 28 19 + ((qq + 1 : Nat) : Int)) % 256 % G 31 pq = G 33 pq then G 32 pq else 0) ≤ 2 := by split <;> omega
                    refine lv_iadd hx hb dX10_decodes_122 ?_
                    refine g_top (y := zI ((mMi G pq qq) + (if (G 28 19 + ((qq + 1 : Nat) : Int)) % 256 % G 31 pq = G 33 pq then G 32 pq else 0))) (zI_add _ _) ?_
                    refine g_top (y := zI (mMi G pq (qq + 1))) (rfl) ?_
                    refine g_iast hx hb hE hG (k := 42) (by omega) (fun _ => rfl) pq (rfl) (by omega) (by omega) dX10_decodes_123 (fun H locs hG => ?_)
                    refine lv_iinc (v := nI (pq + 1)) (lv' := [(4, .int (nI (pq + 1))), (0, .ref (ad 28)), (1, .int (zI (mK G))), (2, .int (zI (mFar G))), (3, .int (nI (qq + 1)))]) hx hb dX10_decodes_124 hl (k := 4) rfl (by rw [show (Int32.ofInt 1 : Int32) = nI 1 from rfl, nI_add]) (by decide) rfl (fun ls hl => ?_)
                    refine lv_goto (tgt := 75) hx hb dX10_decodes_127 (by decide) ?_
                    exact ihq75 (pq + 1) (gu Aq 42 pq (zI (mMi G pq (qq + 1)))) (by omega) (mMissI_p hR rfl) (hO.up _ _ (by decide) (by decide)) (by rw [gu_at, if_neg (by omega)]; exact hth) (by omega) _ _ _ hG (lv_sub hl [1, 2, 3, 4, 0] rfl)
                  refine lv_aload_n hx hb dX10_decodes_92 rfl (lv_at hl 0 rfl) ?_
                  refine lv_iload hx hb dX10_decodes_93 (lv_at hl 4 rfl) ?_
                  refine lv_aload_n hx hb dX10_decodes_95 rfl (lv_at hl 0 rfl) ?_
                  refine g_get (C := RX10) (T := TX10) (NN := 35) (ci := 10) hx hb hts hinX10 hown hE hG (k := 28) (by omega) rfl rfl 19 (by decide) (hts (.fieldLink RX10 71 "CommutatorModel" "counter" "I") (List.mem_of_getElem? (i := 2) rfl)) rfl (v := .int (Aq 28 19)) rfl dX10_decodes_96 ?_
                  refine g_top (y := zI (G 28 19)) (hR 28 19 (by omega) (by omega) (by omega)) ?_
                  refine lv_iload_n hx hb dX10_decodes_99 rfl (lv_at hl 3 rfl) ?_
                  refine lv_iadd hx hb dX10_decodes_100 ?_
                  refine g_top (y := zI ((G 28 19) + ((qq + 1 : Nat) : Int))) (zI_add_in _ _) ?_
                  refine lv_sipush (v := nI 256) hx hb dX10_decodes_101 (by decide) ?_
                  refine lv_irem hx hb dX10_decodes_104 (by decide) ?_
                  refine g_top (y := zI ((G 28 19 + ((qq + 1 : Nat) : Int)) % 256)) (zI_rem (b := 256) (by omega) (by omega) (by omega) (by omega)) ?_
                  refine g_callV (As := [.int (nI pq), .int (zI ((G 28 19 + ((qq + 1 : Nat) : Int)) % 256))]) (rest := [.int (zI (mMi G pq qq)), .int (nI pq), .ref (ad 42)]) (r := (RX10, TX10, 35)) ⟨hx, hb, hml, hown, hts⟩ hE hG (cX10_isSentC l D cy base ad n Aq J G pq ((G 28 19 + ((qq + 1 : Nat) : Int)) % 256) hR.stMi (by first | assumption | omega) (by first | assumption | omega) (by first | assumption | omega) (by first | assumption | omega)) (cwV 2 hts gX10_decodes_X10_isSent rfl rfl rfl (by decide +kernel) ⟨Nat.le_of_ble_eq_true rfl, Nat.le_of_ble_eq_true rfl⟩) (by omega) rfl rfl rfl hl.1 rfl (Nat.le_of_ble_eq_true rfl) dX10_decodes_105 ⟨Nat.zero_le _, Nat.zero_le _⟩ (fun v_ A105 J105 H locs hp hG => ?_)
                  rcases hp with ⟨rfl, rfl, rfl, hC_105⟩ | ⟨rfl, rfl, rfl, hC_105⟩
                  · refine W.eq (g2 := F0 mM 108 ls [.int (nI 1), .int (zI (mMi G pq qq)), .int (nI pq), .ref (ad 42)]) rfl ?_
                    refine lv_if_eq (tgt := 121) hx hb dX10_decodes_108 (by decide) (fun c108 => ?_) (fun c108 => ?_)
                    · skip
                      exact absurd c108 (by decide)
                    · skip
                      refine lv_aload_n hx hb dX10_decodes_111 rfl (lv_at hl 0 rfl) ?_
                      refine g_get (C := RX10) (T := TX10) (NN := 35) (ci := 10) hx hb hts hinX10 hown hE hG (k := 28) (by omega) rfl rfl 4 (by decide) (hts (.fieldLink RX10 19 "CommutatorModel" "samplesEach" "[I") (List.mem_of_getElem? (i := 6) rfl)) rfl (v := .ref (ad 32)) rfl dX10_decodes_112 ?_
                      refine lv_iload hx hb dX10_decodes_115 (lv_at hl 4 rfl) ?_
                      refine g_iald hx hb hE hG (k := 32) (by omega) rfl pq (rfl) (by omega) (by omega) dX10_decodes_117 ?_
                      refine g_top (y := zI (G 32 pq)) (hR 32 pq (by omega) (by omega) (by omega)) ?_
                      refine lv_goto (tgt := 122) hx hb dX10_decodes_118 (by decide) ?_
                      exact LLq122 (G 32 pq) (by first | rw [if_pos hC_105] | rw [if_neg hC_105]) _ _ _ hG (lv_sub hl [0, 1, 2, 3, 4] rfl)
                  · refine W.eq (g2 := F0 mM 108 ls [.int (nI 0), .int (zI (mMi G pq qq)), .int (nI pq), .ref (ad 42)]) rfl ?_
                    refine lv_if_eq (tgt := 121) hx hb dX10_decodes_108 (by decide) (fun c108 => ?_) (fun c108 => ?_)
                    · skip
                      refine lv_iconst (v := nI 0) hx hb dX10_decodes_121 (by decide) ?_
                      exact LLq122 0 (by first | rw [if_pos hC_105] | rw [if_neg hC_105]) _ _ _ hG (lv_sub hl [0, 1, 2, 3, 4] rfl)
                    · skip
                      exact absurd c108 (by decide)
            exact LLq75 _ 0 Aq (by omega) hR hO hth (Nat.lt_succ_self _) _ _ _ hG (lv_sub hl [1, 2, 3, 4, 0] rfl)
      exact LLq67 _ 0 A (by omega) (hM.to (fun k9 j9 _ _ => mMissI_0 G k9 j9)) MOnly.rf rfl (Nat.lt_succ_self _) _ _ _ hG (lv_sub hl [3, 2, 1, 0] rfl)
    refine lv_aload_n hx hb dX10_decodes_41 rfl (lv_at hl 2 rfl) ?_
    refine g_get (C := RX10) (T := TX10) (NN := 35) (ci := 10) hx hb hts hinX10 hown hE hG (k := 28) (by omega) rfl rfl 19 (by decide) (hts (.fieldLink RX10 71 "CommutatorModel" "counter" "I") (List.mem_of_getElem? (i := 2) rfl)) rfl (v := .int (A 28 19)) rfl dX10_decodes_42 ?_
    refine g_top (y := zI (G 28 19)) (hM 28 19 (by omega) (by omega) (by omega)) ?_
    refine lv_iconst (v := zI (-1)) hx hb dX10_decodes_45 (by decide) ?_
    refine lv_icmp_eq (tgt := 65) hx hb dX10_decodes_46 (by decide) (fun c46 => ?_) (fun c46 => ?_)
    · skip
      have c46 : (G 28 19) = (-1) := (cmp_eq (zI_toInt (by omega) (by omega)) (zI_toInt (by omega) (by omega))).mp c46
      exact LLq65 (by omega) _ _ _ hG (lv_sub hl [0, 1, 2] rfl)
    · skip
      have c46 : ¬ ((G 28 19) = (-1)) := fun z9 => c46 ((cmp_eq (zI_toInt (by omega) (by omega)) (zI_toInt (by omega) (by omega))).mpr z9)
      refine lv_iload_n hx hb dX10_decodes_49 rfl (lv_at hl 0 rfl) ?_
      refine lv_if_ne (tgt := 65) hx hb dX10_decodes_50 (by decide) (fun c50 => ?_) (fun c50 => ?_)
      · skip
        have c50 : ¬ ((zI (mFar G)) = nI 0) := c50
        have c50 : ¬ ((mFar G) = ((0 : Nat) : Int)) := fun z9 => c50 ((cmp_eq (zI_toInt (by omega) (by omega)) (nI_toInt (by omega))).mpr z9)
        exact LLq65 (by omega) _ _ _ hG (lv_sub hl [0, 1, 2] rfl)
      · skip
        have c50 : (zI (mFar G)) = nI 0 := c50
        have c50 : (mFar G) = ((0 : Nat) : Int) := (cmp_eq (zI_toInt (by omega) (by omega)) (nI_toInt (by omega))).mp c50
        refine lv_aload_n hx hb dX10_decodes_53 rfl (lv_at hl 2 rfl) ?_
        refine lv_dup hx hb dX10_decodes_54 rfl ?_
        refine g_get (C := RX10) (T := TX10) (NN := 35) (ci := 10) hx hb hts hinX10 hown hE hG (k := 28) (by omega) rfl rfl 23 (by decide) (hts (.fieldLink RX10 139 "CommutatorModel" "repeats" "I") (List.mem_of_getElem? (i := 3) rfl)) rfl (v := .int (A 28 23)) rfl dX10_decodes_55 ?_
        refine g_top (y := zI (G 28 23)) (hM 28 23 (by omega) (by omega) (by omega)) ?_
        refine lv_iconst (v := nI 1) hx hb dX10_decodes_58 (by decide) ?_
        refine lv_iadd hx hb dX10_decodes_59 ?_
        refine g_top (y := zI ((G 28 23) + 1)) (zI_add_in _ _) ?_
        refine g_puti (C := RX10) (T := TX10) (NN := 35) (ci := 10) hx hb hts hinX10 tyX10 tyX10_ok nmX10 hown hE hG (k := 28) (by omega) rfl rfl 23 (by decide) (hts (.fieldLink RX10 139 "CommutatorModel" "repeats" "I") (List.mem_of_getElem? (i := 3) rfl)) rfl rfl (ty := .int) (v := zI ((G 28 23) + 1)) (by decide +kernel) rfl rfl (Nat.le_of_ble_eq_true rfl) rfl dX10_decodes_60 (fun H locs hG => ?_)
        refine lv_iconst (v := nI 0) hx hb dX10_decodes_63 (by decide) ?_
        exact g_iret hx hb hr hlocks hG (Or.inl ⟨rfl, rfl, rfl, by omega, by omega⟩) dX10_decodes_64
  refine lv_aload_n hx hb dX10_decodes_14 rfl (lv_at hl 1 rfl) ?_
  refine g_get (C := RX10) (T := TX10) (NN := 35) (ci := 10) hx hb hts hinX10 hown hE hG (k := 28) (by omega) rfl rfl 19 (by decide) (hts (.fieldLink RX10 71 "CommutatorModel" "counter" "I") (List.mem_of_getElem? (i := 2) rfl)) rfl (v := .int (A 28 19)) rfl dX10_decodes_15 ?_
  refine g_top (y := zI (G 28 19)) (hM 28 19 (by omega) (by omega) (by omega)) ?_
  refine lv_iconst (v := zI (-1)) hx hb dX10_decodes_18 (by decide) ?_
  refine lv_icmp_ne (tgt := 26) hx hb dX10_decodes_19 (by decide) (fun c19 => ?_) (fun c19 => ?_)
  · skip
    have c19 : ¬ ((G 28 19) = (-1)) := fun z9 => c19 ((cmp_eq (zI_toInt (by omega) (by omega)) (zI_toInt (by omega) (by omega))).mpr z9)
    refine lv_iload_n hx hb dX10_decodes_26 rfl (lv_at hl 0 rfl) ?_
    refine lv_aload_n hx hb dX10_decodes_27 rfl (lv_at hl 1 rfl) ?_
    refine g_get (C := RX10) (T := TX10) (NN := 35) (ci := 10) hx hb hts hinX10 hown hE hG (k := 28) (by omega) rfl rfl 19 (by decide) (hts (.fieldLink RX10 71 "CommutatorModel" "counter" "I") (List.mem_of_getElem? (i := 2) rfl)) rfl (v := .int (A 28 19)) rfl dX10_decodes_28 ?_
    refine g_top (y := zI (G 28 19)) (hM 28 19 (by omega) (by omega) (by omega)) ?_
    refine lv_isub hx hb dX10_decodes_31 ?_
    refine g_top (y := zI ((mK G) - (G 28 19))) (zI_sub _ _) ?_
    refine lv_sipush (v := nI 256) hx hb dX10_decodes_32 (by decide) ?_
    refine lv_iadd hx hb dX10_decodes_35 ?_
    refine g_top (y := zI (((mK G) - (G 28 19)) + 256)) (zI_add_in _ _) ?_
    refine lv_sipush (v := nI 256) hx hb dX10_decodes_36 (by decide) ?_
    refine lv_irem hx hb dX10_decodes_39 (by decide) ?_
    refine g_top (y := zI ((mK G - G 28 19 + 256) % 256)) (zI_rem (b := 256) (by omega) (by omega) (by omega) (by omega)) ?_
    exact LLq40 ((mK G - G 28 19 + 256) % 256) (by simp only [mFar]; first | rw [if_pos (by omega)] | rw [if_neg (by omega)]) _ _ _ hG (lv_sub hl [0, 1] rfl)
  · skip
    have c19 : (G 28 19) = (-1) := (cmp_eq (zI_toInt (by omega) (by omega)) (zI_toInt (by omega) (by omega))).mp c19
    refine lv_iconst (v := nI 0) hx hb dX10_decodes_22 (by decide) ?_
    refine lv_goto (tgt := 40) hx hb dX10_decodes_23 (by decide) ?_
    exact LLq40 0 (by simp only [mFar]; first | rw [if_pos (by omega)] | rw [if_neg (by omega)]) _ _ _ hG (lv_sub hl [0, 1] rfl)
