abbrev PX7_sendWord (ad : Nat → Nat) (A : Nat → Nat → Int32) (J : Nat → Nat → Int64) (G : Nat → Nat → Int) (hq : Nat) : Option Value → (Nat → Nat → Int32) → (Nat → Nat → Int64) → Prop := fun v_ A1 J1 => (v_ = none ∧ (CSe A1 J1 (mSW G)) ∧ (CLi A1 (mSW G) hq) ∧ (∀ k, k ≠ 4 → k ≠ 5 → k ≠ 6 → A1 k = A k) ∧ (∀ k j, ¬ (k = 6 ∧ j = 1) → J1 k j = J k j))
set_option maxHeartbeats 4000000 in
set_option maxRecDepth 100000 in
theorem cX7_sendWordC (l : Launch) (D : va_G) (cy : Nat → ClassId) (base : Nat) (ad : Nat → Nat) (n : Nat) (A : Nat → Nat → Int32) (J : Nat → Nat → Int64) (G : Nat → Nat → Int) (hq : Nat) (hct : A 1 1 = nI n ∧ n ≤ 12) (hn : G 28 0 = (n : Int)) (hT : TsOk G) (hFs : ∀ i : Nat, i < n → PtF A G i) (hpr : mPres G) (hse : CSe A J G) (hli : CLi A G hq) (hD : mDisj G) (hsn : 0 ≤ G 28 9 ∧ G 28 9 < 1000) (hbd : 0 ≤ G 28 10 ∧ (hq : Int) + G 28 10 ≤ 8 * G 28 9) : gMet l yX7_sendWord wsX7_sendWord ({ frames := 3, cells := 0, slots := 0, locals := 68 } : Room) D cy base ad n A J [.ref (ad 6), .ref (ad 1), .ref (ad 4)] (PX7_sendWord ad A J G hq) := by
  refine g_ofW (cc := cX7_sendWord) (maxL := 7) (ret := none) (by decide) rfl (Nat.le_of_ble_eq_true rfl) ?_
  intro pM eM sM mM aM bM methM cM H locs ls hx hb hr hts hown hlocks hml hE hG hl
  have hl : lv_has ls 7 [(0, .ref (ad 6)), (1, .ref (ad 1)), (2, .ref (ad 4))] := hl
  have hinX3 : ∀ w ∈ u_ws RX3 TX3 3, w ∈ wsX7_sendWord := by decide +kernel
  have hinX4 : ∀ w ∈ u_ws RX4 TX4 10, w ∈ wsX7_sendWord := by decide +kernel
  have hinX5 : ∀ w ∈ u_ws RX5 TX5 3, w ∈ wsX7_sendWord := by decide +kernel
  have hinX7 : ∀ w ∈ u_ws RX7 TX7 2, w ∈ wsX7_sendWord := by decide +kernel
  have hwd : mWd G = G 28 9 % 8 := rfl
  have hctr : mCtr G = G 28 9 / 8 % 256 := rfl
  refine lv_aload_n hx hb dX7_sendWord_0 rfl (lv_at hl 0 rfl) ?_
  refine g_get (C := RX7) (T := TX7) (NN := 2) (ci := 7) hx hb hts hinX7 hown hE hG (k := 6) (by omega) rfl rfl 0 (by decide) (hts (.fieldLink RX7 9 "Commutator$Sender" "wordsSent" "I") (List.mem_of_getElem? (i := 1) rfl)) rfl (v := .int (A 6 0)) rfl dX7_sendWord_1 ?_
  refine g_top (y := zI (G 28 9)) (hse.1) ?_
  refine lv_bipush (v := nI 8) hx hb dX7_sendWord_4 (by decide) ?_
  refine lv_irem hx hb dX7_sendWord_6 (by decide) ?_
  refine g_top (y := zI (mWd G)) (zI_rem (b := 8) (by omega) (by omega) (by omega) (by omega)) ?_
  refine lv_istore_n (lv' := [(3, .int (zI (mWd G))), (0, .ref (ad 6)), (1, .ref (ad 1)), (2, .ref (ad 4))]) hx hb dX7_sendWord_7 rfl hl (by decide) rfl (fun ls hl => ?_)
  refine lv_aload_n hx hb dX7_sendWord_8 rfl (lv_at hl 1 rfl) ?_
  refine g_get (C := RX7) (T := TX7) (NN := 2) (ci := 7) hx hb hts hinX7 hown hE hG (k := 6) (by omega) rfl rfl 0 (by decide) (hts (.fieldLink RX7 9 "Commutator$Sender" "wordsSent" "I") (List.mem_of_getElem? (i := 1) rfl)) rfl (v := .int (A 6 0)) rfl dX7_sendWord_9 ?_
  refine g_top (y := zI (G 28 9)) (hse.1) ?_
  refine lv_bipush (v := nI 8) hx hb dX7_sendWord_12 (by decide) ?_
  refine lv_idiv hx hb dX7_sendWord_14 (by decide) ?_
  refine g_top (y := zI (G 28 9 / 8)) (zI_div (b := 8) (by omega) (by omega) (by omega) (by omega)) ?_
  refine lv_sipush (v := nI 255) hx hb dX7_sendWord_15 (by decide) ?_
  refine lv_iand hx hb dX7_sendWord_18 ?_
  refine g_top (y := zI (mCtr G)) (z_and255 _) ?_
  refine lv_istore (lv' := [(4, .int (zI (mCtr G))), (3, .int (zI (mWd G))), (0, .ref (ad 6)), (1, .ref (ad 1)), (2, .ref (ad 4))]) hx hb dX7_sendWord_19 hl (by decide) rfl (fun ls hl => ?_)
  have LLq38 : ∀  (Jq : Nat → Nat → Int64) (hfq : FrS (Jq 6 1) G (mCtr G) (mWd G) 0 (G 36)) (hJq : ∀ k j, ¬ (k = 6 ∧ j = 1) → Jq k j = J k j) (H : Heap) (locs : List Loc) (ls : Array Slot), gH D base sM ad (33 + 2 * n) (gw cy ad n A Jq) H locs → lv_has ls 7 [(4, .int (zI (mCtr G))), (3, .int (zI (mWd G))), (0, .ref (ad 6)), (1, .ref (ad 1)), (2, .ref (ad 4))] → W pM l eM ({ frames := 3, cells := 0, slots := 0, locals := 68 } : Room) sM mM aM bM methM cM H locs 0 0 (MQ bM (gPost D cy base ad n (PX7_sendWord ad A J G hq)) aM sM 0 0 (fun q => base ≤ q)) (F0 mM 38 ls []) := by
    intro Jq hfq hJq H locs ls hG hl
    refine lv_aload_n hx hb dX7_sendWord_38 rfl (lv_at hl 2 rfl) ?_
    refine lv_aload_n hx hb dX7_sendWord_39 rfl (lv_at hl 3 rfl) ?_
    refine lv_iload hx hb dX7_sendWord_40 (lv_at hl 0 rfl) ?_
    refine lv_iload_n hx hb dX7_sendWord_42 rfl (lv_at hl 1 rfl) ?_
    refine g_callV (As := [.ref (ad 1), .int (zI (mCtr G)), .int (zI (mWd G))]) (rest := []) (r := (RX7, TX7, 2)) ⟨hx, hb, hml, hown, hts⟩ hE hG (cX7_packSamplesC l D cy base ad n A Jq G (mCtr G) (mWd G) (by first | assumption | omega) (by first | assumption | omega) (by first | assumption | omega) (by first | assumption | omega) (by first | assumption | omega) (by first | assumption | omega) (by first | assumption | omega) (by first | assumption | omega)) (cwV 3 hts gX7_sendWord_X7_packSamples rfl rfl rfl (by decide +kernel) ⟨Nat.le_of_ble_eq_true rfl, Nat.le_of_ble_eq_true rfl⟩) (by omega) rfl rfl rfl hl.1 rfl (Nat.le_of_ble_eq_true rfl) dX7_sendWord_43 ⟨Nat.zero_le _, Nat.zero_le _⟩ (fun v_ A43 J43 H locs hp hG => ?_)
    obtain ⟨rfl, rfl, hfr1_43, hJO_43⟩ := hp
    refine W.eq (g2 := F0 mM 46 ls []) rfl ?_
    have hbit : ∀ r : Nat, r < 8 → ((lnat (J43 6 1)).testBit (64 - mWd G * 8 - ((r + 1 : Nat) : Int)).toNat = true ↔ mBit (mSW1 G) (mCtr G) (8 * mWd G + ((r : Nat) : Int)) = 1) := by
      intro r hr
      have h9 := FrS_bit (G := mSW1 G) (hT.to rfl (fun k j a b => SW1_k G j (by omega))) (hD.to rfl (fun k j a b => SW1_k G j (by omega))) (hfr1_43.to (G' := mSW1 G) rfl (fun k j a b => SW1_k G j (by omega))) (b := (8 * mWd G + (r : Int)).toNat) (by omega) (by omega)
      rw [Int.toNat_of_nonneg (show 0 ≤ 8 * mWd G + (r : Int) by omega)] at h9
      rw [show (64 - mWd G * 8 - ((r + 1 : Nat) : Int)).toNat = 63 - (8 * mWd G + (r : Int)).toNat from by omega]
      exact h9
    refine lv_iconst (v := nI 1) hx hb dX7_sendWord_46 (by decide) ?_
    refine lv_istore (lv' := [(5, .int (nI 1)), (4, .int (zI (mCtr G))), (3, .int (zI (mWd G))), (0, .ref (ad 6)), (1, .ref (ad 1)), (2, .ref (ad 4))]) hx hb dX7_sendWord_47 hl (by decide) rfl (fun ls hl => ?_)
    have LLq49 : ∀ (fuel : Nat) (rq : Nat) (Aq : Nat → Nat → Int32) (hrq : rq ≤ 8) (hlq : CLi Aq (mSW2 G (mSW1 G) rq) hq) (hO : ∀ k, k ≠ 4 → k ≠ 5 → Aq k = A k) (_ : 8 - rq < fuel) (H : Heap) (locs : List Loc) (ls : Array Slot), gH D base sM ad (33 + 2 * n) (gw cy ad n Aq J43) H locs → lv_has ls 7 [(5, .int (nI (rq + 1))), (4, .int (zI (mCtr G))), (3, .int (zI (mWd G))), (0, .ref (ad 6)), (1, .ref (ad 1)), (2, .ref (ad 4))] → W pM l eM ({ frames := 3, cells := 0, slots := 0, locals := 68 } : Room) sM mM aM bM methM cM H locs 0 0 (MQ bM (gPost D cy base ad n (PX7_sendWord ad A J G hq)) aM sM 0 0 (fun q => base ≤ q)) (F0 mM 49 ls []) := by
      intro fuel
      induction fuel with
      | zero => intro rq Aq hrq hlq hO hms H locs ls hG hl; exact absurd hms (Nat.not_lt_zero _)
      | succ fuel ihq49 =>
        intro rq Aq hrq hlq hO hms H locs ls hG hl
        refine lv_iload hx hb dX7_sendWord_49 (lv_at hl 0 rfl) ?_
        refine lv_bipush (v := nI 8) hx hb dX7_sendWord_51 (by decide) ?_
        refine lv_icmp_gt (tgt := 88) hx hb dX7_sendWord_53 (by decide) (fun c53 => ?_) (fun c53 => ?_)
        · skip
          have c53 : 8 < (rq + 1) := (nI_ltI (by omega) (by omega)).mp c53
          have hr8 : rq = 8 := by omega
          have hlq8 : CLi Aq (mSW2 G (mSW1 G) 8) hq := by rw [← hr8]; exact hlq
          have hnx : mSW G 28 9 % 8 ≠ 0 → FrS (J43 6 1) (mSW G) (mCtr (mSW G)) (mWd (mSW G)) 0 (mSW G 36) := by
            intro z9
            have e9 := mSW_9 G
            have a1 : mCtr (mSW G) = mCtr G := by unfold mCtr; rw [e9]; rw [e9] at z9; omega
            have a2 : mWd (mSW G) = mWd G + 1 := by unfold mWd; rw [e9]; rw [e9] at z9; omega
            have a3 : mSW G 36 = mSnd G (mCtr G) (mWd G) (2 * (G 28 0).toNat) := funext (mSW_36 G)
            rw [a1, a2, a3]
            exact (FrS_next (by omega) hfr1_43).to (mSW_k G (by omega) (by omega) (by omega)) (fun k j a b => mSW_k G (by omega) (by omega) (by omega))
          refine lv_aload_n hx hb dX7_sendWord_88 rfl (lv_at hl 3 rfl) ?_
          refine lv_dup hx hb dX7_sendWord_89 rfl ?_
          refine g_get (C := RX7) (T := TX7) (NN := 2) (ci := 7) hx hb hts hinX7 hown hE hG (k := 6) (by omega) rfl rfl 0 (by decide) (hts (.fieldLink RX7 9 "Commutator$Sender" "wordsSent" "I") (List.mem_of_getElem? (i := 1) rfl)) rfl (v := .int (Aq 6 0)) rfl dX7_sendWord_90 ?_
          refine g_top (y := zI (G 28 9)) ((congrFun (hO 6 (by omega) (by omega)) 0).trans hse.1) ?_
          refine lv_iconst (v := nI 1) hx hb dX7_sendWord_93 (by decide) ?_
          refine lv_iadd hx hb dX7_sendWord_94 ?_
          refine g_top (y := zI ((G 28 9) + 1)) (zI_add_in _ _) ?_
          refine g_puti (C := RX7) (T := TX7) (NN := 2) (ci := 7) hx hb hts hinX7 tyX7 tyX7_ok nmX7 hown hE hG (k := 6) (by omega) rfl rfl 0 (by decide) (hts (.fieldLink RX7 9 "Commutator$Sender" "wordsSent" "I") (List.mem_of_getElem? (i := 1) rfl)) rfl rfl (ty := .int) (v := zI ((G 28 9) + 1)) (by decide +kernel) rfl rfl (Nat.le_of_ble_eq_true rfl) rfl dX7_sendWord_95 (fun H locs hG => ?_)
          exact g_vret hx hb hr hlocks hG ⟨rfl, ⟨congrArg zI (by rfl), hnx⟩, ⟨hlq8.1, hlq8.2.1, hlq8.2.2⟩, (fun k a b c => by rw [gu_ne _ _ _ c]; exact hO k a b), (fun k j h9 => (hJO_43 k j h9).trans (hJq k j h9))⟩ dX7_sendWord_98
        · skip
          have c53 : ¬ (8 < (rq + 1)) := fun z9 => c53 ((nI_ltI (by omega) (by omega)).mpr z9)
          refine lv_bipush (v := nI 64) hx hb dX7_sendWord_56 (by decide) ?_
          refine lv_iload_n hx hb dX7_sendWord_58 rfl (lv_at hl 2 rfl) ?_
          refine lv_bipush (v := nI 8) hx hb dX7_sendWord_59 (by decide) ?_
          refine lv_imul hx hb dX7_sendWord_61 ?_
          refine g_top (y := zI ((mWd G) * 8)) (zI_mul_in _ _) ?_
          refine lv_isub hx hb dX7_sendWord_62 ?_
          refine g_top (y := zI (64 - ((mWd G) * 8))) (zI_sub_ni _ _) ?_
          refine lv_iload hx hb dX7_sendWord_63 (lv_at hl 0 rfl) ?_
          refine lv_isub hx hb dX7_sendWord_65 ?_
          refine g_top (y := zI ((64 - ((mWd G) * 8)) - ((rq + 1 : Nat) : Int))) (zI_sub_in _ _) ?_
          refine lv_istore (lv' := [(6, .int (zI ((64 - ((mWd G) * 8)) - ((rq + 1 : Nat) : Int)))), (5, .int (nI (rq + 1))), (4, .int (zI (mCtr G))), (3, .int (zI (mWd G))), (0, .ref (ad 6)), (1, .ref (ad 1)), (2, .ref (ad 4))]) hx hb dX7_sendWord_66 hl (by decide) rfl (fun ls hl => ?_)
          refine lv_aload_n hx hb dX7_sendWord_68 rfl (lv_at hl 6 rfl) ?_
          refine lv_aload_n hx hb dX7_sendWord_69 rfl (lv_at hl 4 rfl) ?_
          refine g_get (C := RX7) (T := TX7) (NN := 2) (ci := 7) hx hb hts hinX7 hown hE hG (k := 6) (by omega) rfl rfl 1 (by decide) (hts (.fieldLink RX7 16 "Commutator$Sender" "frame" "J") (List.mem_of_getElem? (i := 3) rfl)) rfl (v := .long (J43 6 1)) rfl dX7_sendWord_70 ?_
          refine lv_iload hx hb dX7_sendWord_73 (lv_at hl 0 rfl) ?_
          refine lv_lushr (v := gushr (J43 6 1) (zI ((64 - ((mWd G) * 8)) - ((rq + 1 : Nat) : Int)))) hx hb dX7_sendWord_75 rfl ?_
          refine lv_l2i (v := (gushr (J43 6 1) (zI ((64 - ((mWd G) * 8)) - ((rq + 1 : Nat) : Int)))).toInt32) hx hb dX7_sendWord_76 rfl ?_
          refine lv_iconst (v := nI 1) hx hb dX7_sendWord_77 (by decide) ?_
          refine lv_iand hx hb dX7_sendWord_78 ?_
          refine g_top (y := zI (mBit (mSW1 G) (mCtr G) (8 * mWd G + ((rq : Nat) : Int)))) (fr_bit (by omega) (by omega) (mBit_01 _ _ _) (hbit rq (by omega))) ?_
          refine g_callV (As := [.int (zI (mBit (mSW1 G) (mCtr G) (8 * mWd G + ((rq : Nat) : Int))))]) (rest := []) (r := (RX3, TX3, 3)) ⟨hx, hb, hml, hown, hts⟩ hE hG (cX3_appendC l D cy base ad n Aq J43 hq (hq + (G 28 10).toNat + rq) (zI (mBit (mSW1 G) (mCtr G) (8 * mWd G + ((rq : Nat) : Int)))) hlq.1 (hlq.2.1.trans (congrArg nI (by rw [SW2_10]; omega))) (by first | assumption | omega) (by first | assumption | omega) (by first | assumption | omega)) (cwV 1 hts gX7_sendWord_X3_append rfl rfl rfl (by decide +kernel) ⟨Nat.le_of_ble_eq_true rfl, Nat.le_of_ble_eq_true rfl⟩) (by omega) rfl rfl rfl hl.1 rfl (Nat.le_of_ble_eq_true rfl) dX7_sendWord_79 ⟨Nat.zero_le _, Nat.zero_le _⟩ (fun v_ A79 J79 H locs hp hG => ?_)
          obtain ⟨rfl, rfl, rfl⟩ := hp
          refine W.eq (g2 := F0 mM 82 ls []) rfl ?_
          refine lv_iinc (v := nI (rq + 1 + 1)) (lv' := [(5, .int (nI (rq + 1 + 1))), (6, .int (zI ((64 - ((mWd G) * 8)) - ((rq + 1 : Nat) : Int)))), (4, .int (zI (mCtr G))), (3, .int (zI (mWd G))), (0, .ref (ad 6)), (1, .ref (ad 1)), (2, .ref (ad 4))]) hx hb dX7_sendWord_82 hl (k := 1) rfl (by rw [show (Int32.ofInt 1 : Int32) = nI 1 from rfl, nI_add]) (by decide) rfl (fun ls hl => ?_)
          refine lv_goto (tgt := 49) hx hb dX7_sendWord_85 (by decide) ?_
          exact ihq49 (rq + 1) (gu (gu Aq 5 (hq + (G 28 10).toNat + rq) (zI (mBit (mSW1 G) (mCtr G) (8 * mWd G + ((rq : Nat) : Int))))) 4 2 (nI ((hq + (G 28 10).toNat + rq) + 1))) (by omega) (CLi_s hbd.1 hlq rfl) (fun k a b => by rw [gu_ne _ _ _ a, gu_ne _ _ _ b]; exact hO k a b) (by omega) _ _ _ hG (lv_sub hl [0, 2, 3, 4, 5, 6] rfl)
    exact LLq49 _ 0 A (by omega) (CLi_0 hbd.1 hli) (fun _ _ _ => rfl) (Nat.lt_succ_self _) _ _ _ hG (lv_sub hl [0, 1, 2, 3, 4, 5] rfl)
  refine lv_iload_n hx hb dX7_sendWord_21 rfl (lv_at hl 1 rfl) ?_
  refine lv_if_ne (tgt := 38) hx hb dX7_sendWord_22 (by decide) (fun c22 => ?_) (fun c22 => ?_)
  · skip
    have c22 : ¬ ((zI (mWd G)) = nI 0) := c22
    have c22 : ¬ ((mWd G) = ((0 : Nat) : Int)) := fun z9 => c22 ((cmp_eq (zI_toInt (by omega) (by omega)) (nI_toInt (by omega))).mpr z9)
    have hfq1 := hse.2 (by omega)
    have hJq1 : ∀ k j, ¬ (k = 6 ∧ j = 1) → J k j = J k j := fun _ _ _ => rfl
    exact LLq38 J hfq1 hJq1 _ _ _ hG (lv_sub hl [0, 1, 2, 3, 4] rfl)
  · skip
    have c22 : (zI (mWd G)) = nI 0 := c22
    have c22 : (mWd G) = ((0 : Nat) : Int) := (cmp_eq (zI_toInt (by omega) (by omega)) (nI_toInt (by omega))).mp c22
    refine lv_aload_n hx hb dX7_sendWord_25 rfl (lv_at hl 2 rfl) ?_
    refine lv_ldc (v := 47104) hx hb hown (hts (.constant RX7 15 (47104)) (List.mem_of_getElem? (i := 2) rfl)) dX7_sendWord_26 ?_
    refine lv_iload hx hb dX7_sendWord_28 (lv_at hl 0 rfl) ?_
    refine lv_ior hx hb dX7_sendWord_30 ?_
    refine g_top (y := nI (47104 + (mCtr G).toNat)) ((by rw [zI_nat (show 0 ≤ mCtr G by omega)]; exact or47 _ (by omega))) ?_
    refine lv_i2l (v := zL ((47104 + (mCtr G).toNat : Nat) : Int)) hx hb dX7_sendWord_31 (zL_n2l (by omega)) ?_
    refine lv_bipush (v := nI 48) hx hb dX7_sendWord_32 (by decide) ?_
    refine lv_lshl (v := gshl (zL ((47104 + (mCtr G).toNat : Nat) : Int)) (nI 48)) hx hb dX7_sendWord_34 rfl ?_
    have hfq1 : FrS (gshl (zL ((47104 + (mCtr G).toNat : Nat) : Int)) (nI 48)) G (mCtr G) (mWd G) 0 (G 36) := by rw [show mWd G = 0 from by omega]; exact FrS_0 hT (by omega) (by omega)
    have hJq1 : ∀ k j, ¬ (k = 6 ∧ j = 1) → (gu J 6 1 (gshl (zL ((47104 + (mCtr G).toNat : Nat) : Int)) (nI 48))) k j = J k j := fun k j h9 => by rw [gu_at, if_neg h9]
    refine g_putl (C := RX7) (T := TX7) (NN := 2) (ci := 7) hx hb hts hinX7 tyX7 tyX7_ok nmX7 hown hE hG (k := 6) (by omega) rfl rfl 1 (by decide) (hts (.fieldLink RX7 16 "Commutator$Sender" "frame" "J") (List.mem_of_getElem? (i := 3) rfl)) rfl rfl (v := gshl (zL ((47104 + (mCtr G).toNat : Nat) : Int)) (nI 48)) (by decide +kernel) (Nat.le_of_ble_eq_true rfl) rfl dX7_sendWord_35 (fun H locs hG => ?_)
    exact LLq38 (gu J 6 1 (gshl (zL ((47104 + (mCtr G).toNat : Nat) : Int)) (nI 48))) hfq1 hJq1 _ _ _ hG (lv_sub hl [0, 1, 2, 3, 4] rfl)
