abbrev PX9_receive (ad : Nat → Nat) (A : Nat → Nat → Int32) (J : Nat → Nat → Int64) (G : Nat → Nat → Int) (nq : Nat) (zq : Int) : Option Value → (Nat → Nat → Int32) → (Nat → Nat → Int64) → Prop := fun v_ A1 J1 => (∃ (mq : Nat), v_ = some (.int (zI (mRcvU G mq))) ∧ (1 ≤ zq ∧ zq ≤ 4096) ∧ (((mq : Int) = G 28 10 ∧ G 28 10 ≤ zq) ∨ ((mq : Int) = zq ∧ zq < G 28 10)) ∧ (CAll nq A1 J1 (mDrop (mRcv G mq) 0 mq (G 28 10 - (mq : Int)).toNat)) ∧ (∀ k, 28 ≤ k → k < 33 → A1 k = A k) ∧ (∀ k, 28 ≤ k → J1 k = J k))
abbrev EX9_receive (ad : Nat → Nat) (A : Nat → Nat → Int32) (J : Nat → Nat → Int64) (G : Nat → Nat → Int) (nq : Nat) (zq : Int) : String → (Nat → Nat → Int32) → (Nat → Nat → Int64) → Prop := fun e_ A1 J1 => (e_ = "java/lang/IllegalArgumentException" ∧ A = A1 ∧ J = J1 ∧ (¬ (1 ≤ zq ∧ zq ≤ 4096)))
set_option maxHeartbeats 4000000 in
set_option maxRecDepth 100000 in
theorem cX9_receiveC (l : Launch) (D : va_G) (cy : Nat → ClassId) (base : Nat) (ad : Nat → Nat) (n : Nat) (A : Nat → Nat → Int32) (J : Nat → Nat → Int64) (G : Nat → Nat → Int) (nq : Nat) (zq : Int) (hst : l.stackTraces = false) (hnq : nq = n) (hC : CAll nq A J G) (hzq : -2147483648 ≤ zq ∧ zq < 2147483648) : gMetX l yX9_receive wsX9_receive ({ frames := 6, cells := 1, slots := 6, locals := 117 } : Room) D cy base ad n A J [.ref (ad 0), .int (zI zq)] (PX9_receive ad A J G nq zq) (EX9_receive ad A J G nq zq) 1 6 := by
  refine gx_ofW (cc := cX9_receive) (maxL := 5) (ret := (some .int)) (by decide) rfl (Nat.le_of_ble_eq_true rfl) ?_
  intro pM eM sM mM aM bM methM cM H locs ls hx hb hr hts hown hlocks hml hout hE hG hl
  have hl : lv_has ls 5 [(0, .ref (ad 0)), (1, .int (zI zq))] := hl
  have hinX0 : ∀ w ∈ u_ws RX0 TX0 5, w ∈ wsX9_receive := by decide +kernel
  have hinX3 : ∀ w ∈ u_ws RX3 TX3 3, w ∈ wsX9_receive := by decide +kernel
  have hinX4 : ∀ w ∈ u_ws RX4 TX4 10, w ∈ wsX9_receive := by decide +kernel
  have hinX5 : ∀ w ∈ u_ws RX5 TX5 3, w ∈ wsX9_receive := by decide +kernel
  have hinX6 : ∀ w ∈ u_ws RX6 TX6 3, w ∈ wsX9_receive := by decide +kernel
  have hinX8 : ∀ w ∈ u_ws RX8 TX8 7, w ∈ wsX9_receive := by decide +kernel
  have hinX9 : ∀ w ∈ u_ws RX9 TX9 6, w ∈ wsX9_receive := by decide +kernel
  have hC0 := hC
  rw [hnq] at hC
  obtain ⟨hct, hn, hT, hFs, hpr, hz, hU, hD, hso, hse, hli, hsy, hde, hcd, hok, hdv, hdr, hsn, hol, hln⟩ := id hC
  have hta := hok.2.2.1
  have hl1 := hli.1
  have hl2 := hli.2.1
  have hnr := hok.2.2.2.2.1
  refine lv_iload_n hx hb dX9_receive_0 rfl (lv_at hl 1 rfl) ?_
  refine lv_iconst (v := nI 1) hx hb dX9_receive_1 (by decide) ?_
  refine lv_icmp_lt (tgt := 12) hx hb dX9_receive_2 (by decide) (fun c2 => ?_) (fun c2 => ?_)
  · skip
    have c2 : zq < ((1 : Nat) : Int) := (cmp_lt (zI_toInt (by omega) (by omega)) (nI_toInt (by omega))).mp c2
    exact gx_throw (cls := "java/lang/IllegalArgumentException") (ik := 55) (ic := 57) hx hb hst hown (by decide +kernel) (hts (.classLink RX9 55 "java/lang/IllegalArgumentException") (List.mem_of_getElem? (i := 1) rfl)) (hts (.initialized "java/lang/IllegalArgumentException") (List.mem_of_getElem? (i := 2) rfl)) (vxg_IA (fun w9 h9 => hts w9 (List.mem_cons_of_mem _ (List.mem_append_right _ h9)))) vxo_IA hE hG (hl.1.trans hml.symm) dX9_receive_12 dX9_receive_15 dX9_receive_16 dX9_receive_19 hout (Nat.le_of_ble_eq_true rfl) (Nat.le_of_ble_eq_true rfl) (Nat.le_of_ble_eq_true rfl) (Nat.le_of_ble_eq_true rfl) hlocks ⟨rfl, rfl, rfl, (by first | assumption | omega)⟩ (Nat.le_of_ble_eq_true rfl) (Nat.le_of_ble_eq_true rfl)
  · skip
    have c2 : ¬ (zq < ((1 : Nat) : Int)) := fun z9 => c2 ((cmp_lt (zI_toInt (by omega) (by omega)) (nI_toInt (by omega))).mpr z9)
    refine lv_iload_n hx hb dX9_receive_5 rfl (lv_at hl 1 rfl) ?_
    refine lv_sipush (v := nI 4096) hx hb dX9_receive_6 (by decide) ?_
    refine lv_icmp_le (tgt := 20) hx hb dX9_receive_9 (by decide) (fun c9 => ?_) (fun c9 => ?_)
    · skip
      have c9 : zq ≤ ((4096 : Nat) : Int) := (cmp_le (zI_toInt (by omega) (by omega)) (nI_toInt (by omega))).mp c9
      refine lv_aload_n hx hb dX9_receive_20 rfl (lv_at hl 0 rfl) ?_
      refine g_get (C := RX9) (T := TX9) (NN := 6) (ci := 9) hx hb hts hinX9 hown hE hG (k := 0) (by omega) rfl rfl 4 (by decide) (hts (.fieldLink RX9 40 "Commutator" "decoder" "LCommutator$Decoder;") (List.mem_of_getElem? (i := 3) rfl)) rfl (v := .ref (ad 9)) rfl dX9_receive_21 ?_
      refine g_getN (C := RX0) (T := TX0) (NN := 5) (ci := 0) hx hb hts hinX0 hown hE hG (k := 9) (by omega) rfl rfl 0 (by decide) 12 rfl rfl (v := .int (A 9 0)) rfl dX9_receive_24 ?_
      refine g_top (y := zI (G 28 21)) (hde.1) ?_
      refine lv_istore_n (lv' := [(2, .int (zI (G 28 21))), (0, .ref (ad 0)), (1, .int (zI zq))]) hx hb dX9_receive_27 rfl hl (by decide) rfl (fun ls hl => ?_)
      refine lv_iload_n hx hb dX9_receive_28 rfl (lv_at hl 2 rfl) ?_
      refine lv_aload_n hx hb dX9_receive_29 rfl (lv_at hl 1 rfl) ?_
      refine g_get (C := RX9) (T := TX9) (NN := 6) (ci := 9) hx hb hts hinX9 hown hE hG (k := 0) (by omega) rfl rfl 1 (by decide) (hts (.fieldLink RX9 19 "Commutator" "line" "LCommutator$Line;") (List.mem_of_getElem? (i := 4) rfl)) rfl (v := .ref (ad 4)) rfl dX9_receive_30 ?_
      refine g_callV (As := []) (rest := [.int (zI zq)]) (r := (RX3, TX3, 3)) ⟨hx, hb, hml, hown, hts⟩ hE hG (cX3_lengthC l D cy base ad n A J ((G 28 12).toNat) ((G 28 12).toNat + (G 28 10).toNat) hl1 hl2 (by omega) (by omega)) (cwV 0 hts gX9_receive_X3_length rfl rfl rfl (by decide +kernel) ⟨Nat.le_of_ble_eq_true rfl, Nat.le_of_ble_eq_true rfl⟩) (by omega) rfl rfl rfl hl.1 rfl (Nat.le_of_ble_eq_true rfl) dX9_receive_33 ⟨(Nat.le_of_ble_eq_true rfl), (Nat.le_of_ble_eq_true rfl)⟩ (fun v_ A33 J33 H locs hp hG => ?_)
      obtain ⟨rfl, rfl, rfl⟩ := hp
      refine W.eq (g2 := F0 mM 36 ls [.int (nI (((G 28 12).toNat + (G 28 10).toNat) - ((G 28 12).toNat))), .int (zI zq)]) rfl ?_
      refine va_mmin hx hb (hml.trans hl.1.symm) hown (hts (.methodLink RX9 124 Lib.Math.min.name) (List.mem_of_getElem? (i := 5) rfl)) (hts (.static Lib.Math.min.name) (List.mem_of_getElem? (i := 6) rfl)) (hts (.initialized "java/lang/Math") (List.mem_of_getElem? (i := 7) rfl)) (hts (.code Lib.Math.min.name Lib.Math.min.code 2 (some .int)) (List.mem_of_getElem? (i := 8) rfl)) (Nat.le_of_ble_eq_true rfl) (Nat.le_of_ble_eq_true rfl) (Nat.zero_le _) (Nat.zero_le _) dX9_receive_36 ?_
      refine g_top (y := zI (if ((((G 28 12).toNat + (G 28 10).toNat) - ((G 28 12).toNat) : Nat) : Int) < zq then ((((G 28 12).toNat + (G 28 10).toNat) - ((G 28 12).toNat) : Nat) : Int) else zq)) (by simp only [← zI_n]; exact zI_min (by omega) (by omega) (by omega) (by omega)) ?_
      obtain ⟨mq, hmq⟩ : ∃ mq : Nat, (if ((((G 28 12).toNat + (G 28 10).toNat) - ((G 28 12).toNat) : Nat) : Int) < zq then ((((G 28 12).toNat + (G 28 10).toNat) - ((G 28 12).toNat) : Nat) : Int) else zq) = (mq : Int) := ⟨((if ((((G 28 12).toNat + (G 28 10).toNat) - ((G 28 12).toNat) : Nat) : Int) < zq then ((((G 28 12).toNat + (G 28 10).toNat) - ((G 28 12).toNat) : Nat) : Int) else zq)).toNat, (Int.toNat_of_nonneg (by split <;> omega)).symm⟩
      have hmq2 : ((mq : Int) = G 28 10 ∧ G 28 10 ≤ zq) ∨ ((mq : Int) = zq ∧ zq < G 28 10) := by split at hmq <;> omega
      refine g_top (y := nI mq) (by rw [hmq]; rfl) ?_
      refine lv_istore_n (lv' := [(3, .int (nI mq)), (2, .int (zI (G 28 21))), (0, .ref (ad 0)), (1, .int (zI zq))]) hx hb dX9_receive_39 rfl hl (by decide) rfl (fun ls hl => ?_)
      refine lv_iconst (v := nI 0) hx hb dX9_receive_40 (by decide) ?_
      refine lv_istore (lv' := [(4, .int (nI 0)), (3, .int (nI mq)), (2, .int (zI (G 28 21))), (0, .ref (ad 0)), (1, .int (zI zq))]) hx hb dX9_receive_41 hl (by decide) rfl (fun ls hl => ?_)
      have LLq43 : ∀ (fuel : Nat) (kq : Nat) (Aq : Nat → Nat → Int32) (Jq : Nat → Nat → Int64) (hk : kq ≤ mq) (hl41 : Aq 4 1 = nI ((G 28 12).toNat + kq)) (hl42 : Aq 4 2 = nI ((G 28 12).toNat + (G 28 10).toNat)) (hsq : CSy Aq Jq (mRcv G kq)) (hdq : CDe Aq (mRcv G kq)) (hFq : ∀ i : Nat, i < n → PtF Aq (mRcv G kq) i) (hO : ∀ k, k < 33 → k ≠ 4 → k ≠ 7 → k ≠ 8 → k ≠ 9 → Aq k = A k) (hJ : ∀ k j, ¬ (k = 7 ∧ j = 2) → Jq k j = J k j) (_ : (mq - kq) < fuel) (H : Heap) (locs : List Loc) (ls : Array Slot), gH D base sM ad (33 + 2 * n) (gw cy ad n Aq Jq) H locs → lv_has ls 5 [(0, .ref (ad 0)), (1, .int (zI zq)), (2, .int (zI (G 28 21))), (3, .int (nI mq)), (4, .int (nI kq))] → W pM l eM ({ frames := 6, cells := 1, slots := 6, locals := 117 } : Room) sM mM aM bM methM cM H locs 0 0 (vx_MQ bM (gPost D cy base ad n (PX9_receive ad A J G nq zq)) (gXC D cy base ad n (EX9_receive ad A J G nq zq)) aM sM 1 6 (fun q => base ≤ q)) (F0 mM 43 ls []) := by
        intro fuel
        induction fuel with
        | zero => intro kq Aq Jq hk hl41 hl42 hsq hdq hFq hO hJ hms H locs ls hG hl; exact absurd hms (Nat.not_lt_zero _)
        | succ fuel ihq43 =>
          intro kq Aq Jq hk hl41 hl42 hsq hdq hFq hO hJ hms H locs ls hG hl
          have hrk := mRcv_ok hok hln kq (by omega)
          refine lv_iload hx hb dX9_receive_43 (lv_at hl 4 rfl) ?_
          refine lv_iload_n hx hb dX9_receive_45 rfl (lv_at hl 3 rfl) ?_
          refine lv_icmp_ge (tgt := 90) hx hb dX9_receive_46 (by decide) (fun c46 => ?_) (fun c46 => ?_)
          · skip
            have c46 : mq ≤ kq := (nI_leI (by omega) (by omega)).mp c46
            have hkm : kq = mq := by omega
            subst hkm
            have h21 := mRcv_21 G kq
            refine lv_aload_n hx hb dX9_receive_90 rfl (lv_at hl 0 rfl) ?_
            refine g_get (C := RX9) (T := TX9) (NN := 6) (ci := 9) hx hb hts hinX9 hown hE hG (k := 0) (by omega) rfl rfl 4 (by decide) (hts (.fieldLink RX9 40 "Commutator" "decoder" "LCommutator$Decoder;") (List.mem_of_getElem? (i := 3) rfl)) rfl (v := .ref (ad 9)) rfl dX9_receive_91 ?_
            refine g_getN (C := RX0) (T := TX0) (NN := 5) (ci := 0) hx hb hts hinX0 hown hE hG (k := 9) (by omega) rfl rfl 0 (by decide) 12 rfl rfl (v := .int (Aq 9 0)) rfl dX9_receive_94 ?_
            refine g_top (y := zI (mRcv G kq 28 21)) (hdq.1) ?_
            refine lv_iload_n hx hb dX9_receive_97 rfl (lv_at hl 2 rfl) ?_
            refine lv_isub hx hb dX9_receive_98 ?_
            refine g_top (y := zI ((mRcv G kq 28 21) - (G 28 21))) (zI_sub _ _) ?_
            exact gx_iret hx hb hr hlocks hG (Nat.le_of_ble_eq_true rfl) (Nat.le_of_ble_eq_true rfl) ⟨_, (by congr 3; omega), by omega, hmq2, (by rw [hnq]; exact hC.rcv (by omega) hsq hdq hFq ⟨hl41, hl42⟩ hO hJ), fun k a b => hO k b (by omega) (by omega) (by omega) (by omega), fun k a => funext fun j => hJ k j (by omega)⟩ dX9_receive_99
          · skip
            have c46 : ¬ (mq ≤ kq) := fun z9 => c46 ((nI_leI (by omega) (by omega)).mpr z9)
            refine lv_aload_n hx hb dX9_receive_49 rfl (lv_at hl 0 rfl) ?_
            refine g_get (C := RX9) (T := TX9) (NN := 6) (ci := 9) hx hb hts hinX9 hown hE hG (k := 0) (by omega) rfl rfl 3 (by decide) (hts (.fieldLink RX9 33 "Commutator" "synchroniser" "LCommutator$Synchroniser;") (List.mem_of_getElem? (i := 9) rfl)) rfl (v := .ref (ad 7)) rfl dX9_receive_50 ?_
            refine lv_aload_n hx hb dX9_receive_53 rfl (lv_at hl 0 rfl) ?_
            refine g_get (C := RX9) (T := TX9) (NN := 6) (ci := 9) hx hb hts hinX9 hown hE hG (k := 0) (by omega) rfl rfl 1 (by decide) (hts (.fieldLink RX9 19 "Commutator" "line" "LCommutator$Line;") (List.mem_of_getElem? (i := 4) rfl)) rfl (v := .ref (ad 4)) rfl dX9_receive_54 ?_
            refine g_callV (As := []) (rest := [.ref (ad 7)]) (r := (RX3, TX3, 3)) ⟨hx, hb, hml, hown, hts⟩ hE hG (cX3_takeFirstC l D cy base ad n Aq Jq ((G 28 12).toNat + kq) ((G 28 12).toNat + (G 28 10).toNat) hl41 hl42 (by omega) (by omega) (by omega)) (cwV 0 hts gX9_receive_X3_takeFirst rfl rfl rfl (by decide +kernel) ⟨Nat.le_of_ble_eq_true rfl, Nat.le_of_ble_eq_true rfl⟩) (by omega) rfl rfl rfl hl.1 rfl (Nat.le_of_ble_eq_true rfl) dX9_receive_57 ⟨(Nat.le_of_ble_eq_true rfl), (Nat.le_of_ble_eq_true rfl)⟩ (fun v_ A57 J57 H locs hp hG => ?_)
            obtain ⟨rfl, rfl, rfl⟩ := hp
            refine W.eq (g2 := F0 mM 60 ls [.int (Aq 5 ((G 28 12).toNat + kq)), .ref (ad 7)]) rfl ?_
            refine g_top (y := zI (G 37 kq)) (by rw [hO 5 (by omega) (by omega) (by omega) (by omega) (by omega)]; exact hli.2.2 kq (by omega)) ?_
            refine g_callV (As := [.int (zI (G 37 kq))]) (rest := []) (r := (RX8, TX8, 7)) ⟨hx, hb, hml, hown, hts⟩ hE hG (cX8_takeC l D cy base ad n (gu Aq 4 1 (nI (((G 28 12).toNat + kq) + 1))) Jq (mRcv G kq) (G 37 kq) (hsq.to (gu_ne _ _ _ (by decide)) (gu_ne _ _ _ (by decide)) rfl (fun _ => rfl) (fun _ _ _ => rfl)) hrk.1 (by rw [hrk.2]; omega) (hln kq)) (cwV 1 hts gX9_receive_X8_take rfl rfl rfl (by decide +kernel) ⟨Nat.le_of_ble_eq_true rfl, Nat.le_of_ble_eq_true rfl⟩) (by omega) rfl rfl rfl hl.1 rfl (Nat.le_of_ble_eq_true rfl) dX9_receive_60 ⟨(Nat.le_of_ble_eq_true rfl), (Nat.le_of_ble_eq_true rfl)⟩ (fun v_ A60 J60 H locs hp hG => ?_)
            rcases hp with ⟨rfl, rfl, hcs1_60, hO1_60, hd_60⟩ | ⟨rfl, rfl, hcs1_60, hO1_60, hd_60, hfr_60⟩
            · refine W.eq (g2 := F0 mM 63 ls [.int (nI 0)]) rfl ?_
              refine lv_if_eq (tgt := 84) hx hb dX9_receive_63 (by decide) (fun c63 => ?_) (fun c63 => ?_)
              · skip
                refine lv_iinc (v := nI (kq + 1)) (lv' := [(4, .int (nI (kq + 1))), (0, .ref (ad 0)), (1, .int (zI zq)), (2, .int (zI (G 28 21))), (3, .int (nI mq))]) hx hb dX9_receive_84 hl (k := 4) rfl (by rw [show (Int32.ofInt 1 : Int32) = nI 1 from rfl, nI_add]) (by decide) rfl (fun ls hl => ?_)
                refine lv_goto (tgt := 43) hx hb dX9_receive_87 (by decide) ?_
                exact ihq43 (kq + 1) A60 (gu Jq 7 2 (gshl (Jq 7 2) (nI 1) ||| zL (G 37 kq))) (by omega) (by first | (rw [hO1_81 4 (by omega) (by omega), hO1_60 4 (by omega) (by omega), gu_at, if_pos ⟨rfl, rfl⟩]; rfl) | (rw [hO1_60 4 (by omega) (by omega), gu_at, if_pos ⟨rfl, rfl⟩]; rfl)) (by first | (rw [hO1_81 4 (by omega) (by omega), hO1_60 4 (by omega) (by omega), gu_at, if_neg (by omega)]; exact hl42) | (rw [hO1_60 4 (by omega) (by omega), gu_at, if_neg (by omega)]; exact hl42)) (by first | exact CSy.to hcs1_60 (hO1_81 7 (by omega) (by omega)) (hO1_81 8 (by omega) (by omega)) rfl (fun _ => rfl) (fun _ _ _ => rfl) | exact hcs1_60) (by first | (show CDe _ (mTake _ _); rw [hty]; exact hde1_81) | exact hdq.to (by rw [hO1_60 _ (by omega) (by omega), gu_ne _ _ _ (by omega)]) (fun j _ _ => mTake_n hd_60 (by omega))) (by first | (show ∀ i : Nat, i < n → PtF _ (mTake _ _) i; rw [hty]; exact fun i hi => hF1_81 i (by rw [mT1_k _ _ (by omega) (by omega), mRcv_sc G kq (by omega)]; omega)) | exact fun i hi => (hFq i hi).to (by rw [hO1_60 _ (by omega) (by omega), gu_ne _ _ _ (by omega)]) (by rw [hO1_60 _ (by omega) (by omega), gu_ne _ _ _ (by omega)]) (fun k _ _ _ _ _ => mTake_n hd_60 (by omega))) (by first | exact fun k a b c9 d e => by rw [hO1_81 k a e, hO1_60 k c9 d, gu_ne _ _ _ b]; exact hO k a b c9 d e | exact fun k a b c9 d e => by rw [hO1_60 k c9 d, gu_ne _ _ _ b]; exact hO k a b c9 d e) (fun k j a => by rw [gu_at, if_neg a]; exact hJ k j a) (by omega) _ _ _ hG (lv_sub hl [1, 2, 3, 4, 0] rfl)
              · skip
                exact absurd c63 (by decide)
            · refine W.eq (g2 := F0 mM 63 ls [.int (nI 1)]) rfl ?_
              refine lv_if_eq (tgt := 84) hx hb dX9_receive_63 (by decide) (fun c63 => ?_) (fun c63 => ?_)
              · skip
                exact absurd c63 (by decide)
              · skip
                have hm1 := mT1_ok hrk.1 (by rw [hrk.2]; omega) (hln kq) (Or.inr (by have := hd_60.2.1; omega))
                have hty := mTake_y (b := G 37 kq) hd_60
                refine lv_aload_n hx hb dX9_receive_66 rfl (lv_at hl 0 rfl) ?_
                refine g_get (C := RX9) (T := TX9) (NN := 6) (ci := 9) hx hb hts hinX9 hown hE hG (k := 0) (by omega) rfl rfl 4 (by decide) (hts (.fieldLink RX9 40 "Commutator" "decoder" "LCommutator$Decoder;") (List.mem_of_getElem? (i := 3) rfl)) rfl (v := .ref (ad 9)) rfl dX9_receive_67 ?_
                refine lv_aload_n hx hb dX9_receive_70 rfl (lv_at hl 0 rfl) ?_
                refine g_get (C := RX9) (T := TX9) (NN := 6) (ci := 9) hx hb hts hinX9 hown hE hG (k := 0) (by omega) rfl rfl 3 (by decide) (hts (.fieldLink RX9 33 "Commutator" "synchroniser" "LCommutator$Synchroniser;") (List.mem_of_getElem? (i := 9) rfl)) rfl (v := .ref (ad 7)) rfl dX9_receive_71 ?_
                refine g_getN (C := RX8) (T := TX8) (NN := 7) (ci := 8) hx hb hts hinX8 hown hE hG (k := 7) (by omega) rfl rfl 2 (by decide) 10 rfl rfl (v := .long (gshl (Jq 7 2) (nI 1) ||| zL (G 37 kq))) rfl dX9_receive_74 ?_
                refine lv_aload_n hx hb dX9_receive_77 rfl (lv_at hl 0 rfl) ?_
                refine g_get (C := RX9) (T := TX9) (NN := 6) (ci := 9) hx hb hts hinX9 hown hE hG (k := 0) (by omega) rfl rfl 0 (by decide) (hts (.fieldLink RX9 10 "Commutator" "table" "LCommutator$PointTable;") (List.mem_of_getElem? (i := 10) rfl)) rfl (v := .ref (ad 1)) rfl dX9_receive_78 ?_
                refine g_callV (As := [.long (gshl (Jq 7 2) (nI 1) ||| zL (G 37 kq)), .ref (ad 1)]) (rest := []) (r := (RX0, TX0, 5)) ⟨hx, hb, hml, hown, hts⟩ hE hG (cX0_decodeC l D cy base ad n A60 (gu Jq 7 2 (gshl (Jq 7 2) (nI 1) ||| zL (G 37 kq))) (mT1 (mRcv G kq) (G 37 kq)) (gshl (Jq 7 2) (nI 1) ||| zL (G 37 kq)) ⟨(by rw [hO1_60 1 (by omega) (by omega), gu_ne _ _ _ (by decide), hO 1 (by omega) (by omega) (by omega) (by omega) (by omega)]; exact hct.1), hct.2⟩ (by rw [mT1_k _ _ (by omega) (by omega), mRcv_sc G kq (by omega)]; exact hn) hm1.1.1 (fun i hi => (hFq i hi).to (by rw [hO1_60 _ (by omega) (by omega), gu_ne _ _ _ (by omega)]) (by rw [hO1_60 _ (by omega) (by omega), gu_ne _ _ _ (by omega)]) (fun k _ _ _ _ _ => mT1_k _ _ (by omega) (by omega))) (hdq.to (by rw [hO1_60 _ (by omega) (by omega), gu_ne _ _ _ (by omega)]) (fun j _ _ => mT1_k _ _ (by omega) (by omega))) hm1.1 hfr_60) (cwV 2 hts gX9_receive_X0_decode rfl rfl rfl (by decide +kernel) ⟨Nat.le_of_ble_eq_true rfl, Nat.le_of_ble_eq_true rfl⟩) (by omega) rfl rfl rfl hl.1 rfl (Nat.le_of_ble_eq_true rfl) dX9_receive_81 ⟨(Nat.le_of_ble_eq_true rfl), (Nat.le_of_ble_eq_true rfl)⟩ (fun v_ A81 J81 H locs hp hG => ?_)
                obtain ⟨rfl, rfl, hde1_81, hF1_81, hO1_81⟩ := hp
                refine W.eq (g2 := F0 mM 84 ls []) rfl ?_
                refine lv_iinc (v := nI (kq + 1)) (lv' := [(4, .int (nI (kq + 1))), (0, .ref (ad 0)), (1, .int (zI zq)), (2, .int (zI (G 28 21))), (3, .int (nI mq))]) hx hb dX9_receive_84 hl (k := 4) rfl (by rw [show (Int32.ofInt 1 : Int32) = nI 1 from rfl, nI_add]) (by decide) rfl (fun ls hl => ?_)
                refine lv_goto (tgt := 43) hx hb dX9_receive_87 (by decide) ?_
                exact ihq43 (kq + 1) A81 (gu Jq 7 2 (gshl (Jq 7 2) (nI 1) ||| zL (G 37 kq))) (by omega) (by first | (rw [hO1_81 4 (by omega) (by omega), hO1_60 4 (by omega) (by omega), gu_at, if_pos ⟨rfl, rfl⟩]; rfl) | (rw [hO1_60 4 (by omega) (by omega), gu_at, if_pos ⟨rfl, rfl⟩]; rfl)) (by first | (rw [hO1_81 4 (by omega) (by omega), hO1_60 4 (by omega) (by omega), gu_at, if_neg (by omega)]; exact hl42) | (rw [hO1_60 4 (by omega) (by omega), gu_at, if_neg (by omega)]; exact hl42)) (by first | exact CSy.to hcs1_60 (hO1_81 7 (by omega) (by omega)) (hO1_81 8 (by omega) (by omega)) rfl (fun _ => rfl) (fun _ _ _ => rfl) | exact hcs1_60) (by first | (show CDe _ (mTake _ _); rw [hty]; exact hde1_81) | exact hdq.to (by rw [hO1_60 _ (by omega) (by omega), gu_ne _ _ _ (by omega)]) (fun j _ _ => mTake_n hd_60 (by omega))) (by first | (show ∀ i : Nat, i < n → PtF _ (mTake _ _) i; rw [hty]; exact fun i hi => hF1_81 i (by rw [mT1_k _ _ (by omega) (by omega), mRcv_sc G kq (by omega)]; omega)) | exact fun i hi => (hFq i hi).to (by rw [hO1_60 _ (by omega) (by omega), gu_ne _ _ _ (by omega)]) (by rw [hO1_60 _ (by omega) (by omega), gu_ne _ _ _ (by omega)]) (fun k _ _ _ _ _ => mTake_n hd_60 (by omega))) (by first | exact fun k a b c9 d e => by rw [hO1_81 k a e, hO1_60 k c9 d, gu_ne _ _ _ b]; exact hO k a b c9 d e | exact fun k a b c9 d e => by rw [hO1_60 k c9 d, gu_ne _ _ _ b]; exact hO k a b c9 d e) (fun k j a => by rw [gu_at, if_neg a]; exact hJ k j a) (by omega) _ _ _ hG (lv_sub hl [1, 2, 3, 4, 0] rfl)
      exact LLq43 _ 0 A J (by omega) hl1 hl2 hsy hde hFs (fun _ _ _ _ _ _ => rfl) (fun _ _ _ => rfl) (Nat.lt_succ_self _) _ _ _ hG (lv_sub hl [3, 4, 2, 1, 0] rfl)
    · skip
      have c9 : ¬ (zq ≤ ((4096 : Nat) : Int)) := fun z9 => c9 ((cmp_le (zI_toInt (by omega) (by omega)) (nI_toInt (by omega))).mpr z9)
      exact gx_throw (cls := "java/lang/IllegalArgumentException") (ik := 55) (ic := 57) hx hb hst hown (by decide +kernel) (hts (.classLink RX9 55 "java/lang/IllegalArgumentException") (List.mem_of_getElem? (i := 1) rfl)) (hts (.initialized "java/lang/IllegalArgumentException") (List.mem_of_getElem? (i := 2) rfl)) (vxg_IA (fun w9 h9 => hts w9 (List.mem_cons_of_mem _ (List.mem_append_right _ h9)))) vxo_IA hE hG (hl.1.trans hml.symm) dX9_receive_12 dX9_receive_15 dX9_receive_16 dX9_receive_19 hout (Nat.le_of_ble_eq_true rfl) (Nat.le_of_ble_eq_true rfl) (Nat.le_of_ble_eq_true rfl) (Nat.le_of_ble_eq_true rfl) hlocks ⟨rfl, rfl, rfl, (by first | assumption | omega)⟩ (Nat.le_of_ble_eq_true rfl) (Nat.le_of_ble_eq_true rfl)
