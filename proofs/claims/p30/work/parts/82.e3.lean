abbrev PX9_bestOffset (ad : Nat → Nat) (A : Nat → Nat → Int32) (J : Nat → Nat → Int64) (G : Nat → Nat → Int) (nq : Nat) : Option Value → (Nat → Nat → Int32) → (Nat → Nat → Int64) → Prop := fun v_ A1 J1 => (v_ = some (.int (nI (mBest (mMat G) 63))) ∧ A = A1 ∧ J = J1)
set_option maxHeartbeats 4000000 in
set_option maxRecDepth 100000 in
theorem cX9_bestOffsetC (l : Launch) (D : va_G) (cy : Nat → ClassId) (base : Nat) (ad : Nat → Nat) (n : Nat) (A : Nat → Nat → Int32) (J : Nat → Nat → Int64) (G : Nat → Nat → Int) (nq : Nat) (hnq : nq = n) (hC : CAll nq A J G) : gMet l yX9_bestOffset wsX9_bestOffset ({ frames := 1, cells := 0, slots := 0, locals := 21 } : Room) D cy base ad n A J [.ref (ad 0)] (PX9_bestOffset ad A J G nq) := by
  refine g_ofW (cc := cX9_bestOffset) (maxL := 3) (ret := (some .int)) (by decide) rfl (Nat.le_of_ble_eq_true rfl) ?_
  intro pM eM sM mM aM bM methM cM H locs ls hx hb hr hts hown hlocks hml hE hG hl
  have hl : lv_has ls 3 [(0, .ref (ad 0))] := hl
  have hinX8 : ∀ w ∈ u_ws RX8 TX8 7, w ∈ wsX9_bestOffset := by decide +kernel
  have hinX9 : ∀ w ∈ u_ws RX9 TX9 6, w ∈ wsX9_bestOffset := by decide +kernel
  have hC0 := hC
  rw [hnq] at hC
  obtain ⟨hct, hn, hT, hFs, hpr, hz, hU, hD, hso, hse, hli, hsy, hde, hcd, hok, hdv, hdr, hsn, hol, hln⟩ := id hC
  have hta := hok.2.2.1
  refine lv_iconst (v := nI 0) hx hb dX9_bestOffset_0 (by decide) ?_
  refine lv_istore_n (lv' := [(1, .int (nI 0)), (0, .ref (ad 0))]) hx hb dX9_bestOffset_1 rfl hl (by decide) rfl (fun ls hl => ?_)
  refine lv_iconst (v := nI 1) hx hb dX9_bestOffset_2 (by decide) ?_
  refine lv_istore_n (lv' := [(2, .int (nI 1)), (1, .int (nI 0)), (0, .ref (ad 0))]) hx hb dX9_bestOffset_3 rfl hl (by decide) rfl (fun ls hl => ?_)
  have LLq4 : ∀ (fuel : Nat) (kq : Nat) (hk : kq < 64) (_ : 64 - kq < fuel) (H : Heap) (locs : List Loc) (ls : Array Slot), gH D base sM ad (33 + 2 * n) (gw cy ad n A J) H locs → lv_has ls 3 [(0, .ref (ad 0)), (1, .int (nI (mBest (mMat G) kq))), (2, .int (nI (kq + 1)))] → W pM l eM ({ frames := 1, cells := 0, slots := 0, locals := 21 } : Room) sM mM aM bM methM cM H locs 0 0 (MQ bM (gPost D cy base ad n (PX9_bestOffset ad A J G nq)) aM sM 0 0 (fun q => base ≤ q)) (F0 mM 4 ls []) := by
    intro fuel
    induction fuel with
    | zero => intro kq hk hms H locs ls hG hl; exact absurd hms (Nat.not_lt_zero _)
    | succ fuel ihq4 =>
      intro kq hk hms H locs ls hG hl
      refine lv_iload_n hx hb dX9_bestOffset_4 rfl (lv_at hl 2 rfl) ?_
      refine lv_bipush (v := nI 64) hx hb dX9_bestOffset_5 (by decide) ?_
      refine lv_icmp_ge (tgt := 37) hx hb dX9_bestOffset_7 (by decide) (fun c7 => ?_) (fun c7 => ?_)
      · skip
        have c7 : 64 ≤ (kq + 1) := (nI_leI (by omega) (by omega)).mp c7
        have hk9 : kq = 63 := by omega
        subst hk9
        refine lv_iload_n hx hb dX9_bestOffset_37 rfl (lv_at hl 1 rfl) ?_
        exact g_iret hx hb hr hlocks hG ⟨rfl, rfl, rfl⟩ dX9_bestOffset_38
      · skip
        have c7 : ¬ (64 ≤ (kq + 1)) := fun z9 => c7 ((nI_leI (by omega) (by omega)).mpr z9)
        have hbl := mBest_le (mMat G) kq
        have hm1 := mMat_range hta (kq + 1)
        have hm2 := mMat_range hta (mBest (mMat G) kq)
        refine lv_aload_n hx hb dX9_bestOffset_10 rfl (lv_at hl 0 rfl) ?_
        refine g_get (C := RX9) (T := TX9) (NN := 6) (ci := 9) hx hb hts hinX9 hown hE hG (k := 0) (by omega) rfl rfl 3 (by decide) (hts (.fieldLink RX9 33 "Commutator" "synchroniser" "LCommutator$Synchroniser;") (List.mem_of_getElem? (i := 1) rfl)) rfl (v := .ref (ad 7)) rfl dX9_bestOffset_11 ?_
        refine lv_iload_n hx hb dX9_bestOffset_14 rfl (lv_at hl 2 rfl) ?_
        refine g_callV (As := [.int (nI (kq + 1))]) (rest := []) (r := (RX8, TX8, 7)) ⟨hx, hb, hml, hown, hts⟩ hE hG (cX8_syncWordsAtC l D cy base ad n A J (kq + 1) (mMat G (kq + 1)) (by first | assumption | omega) (hsy.2.2.2.2.2.2 _ (by omega))) (cwV 1 hts gX9_bestOffset_X8_syncWordsAt rfl rfl rfl (by decide +kernel) ⟨Nat.le_of_ble_eq_true rfl, Nat.le_of_ble_eq_true rfl⟩) (by omega) rfl rfl rfl hl.1 rfl (Nat.le_of_ble_eq_true rfl) dX9_bestOffset_15 ⟨Nat.zero_le _, Nat.zero_le _⟩ (fun v_ A15 J15 H locs hp hG => ?_)
        obtain ⟨rfl, rfl, rfl⟩ := hp
        refine W.eq (g2 := F0 mM 18 ls [.int (zI (mMat G (kq + 1)))]) rfl ?_
        refine lv_aload_n hx hb dX9_bestOffset_18 rfl (lv_at hl 0 rfl) ?_
        refine g_get (C := RX9) (T := TX9) (NN := 6) (ci := 9) hx hb hts hinX9 hown hE hG (k := 0) (by omega) rfl rfl 3 (by decide) (hts (.fieldLink RX9 33 "Commutator" "synchroniser" "LCommutator$Synchroniser;") (List.mem_of_getElem? (i := 1) rfl)) rfl (v := .ref (ad 7)) rfl dX9_bestOffset_19 ?_
        refine lv_iload_n hx hb dX9_bestOffset_22 rfl (lv_at hl 1 rfl) ?_
        refine g_callV (As := [.int (nI (mBest (mMat G) kq))]) (rest := [.int (zI (mMat G (kq + 1)))]) (r := (RX8, TX8, 7)) ⟨hx, hb, hml, hown, hts⟩ hE hG (cX8_syncWordsAtC l D cy base ad n A J (mBest (mMat G) kq) (mMat G (mBest (mMat G) kq)) (by first | assumption | omega) (hsy.2.2.2.2.2.2 _ (by omega))) (cwV 1 hts gX9_bestOffset_X8_syncWordsAt rfl rfl rfl (by decide +kernel) ⟨Nat.le_of_ble_eq_true rfl, Nat.le_of_ble_eq_true rfl⟩) (by omega) rfl rfl rfl hl.1 rfl (Nat.le_of_ble_eq_true rfl) dX9_bestOffset_23 ⟨Nat.zero_le _, Nat.zero_le _⟩ (fun v_ A23 J23 H locs hp hG => ?_)
        obtain ⟨rfl, rfl, rfl⟩ := hp
        refine W.eq (g2 := F0 mM 26 ls [.int (zI (mMat G (mBest (mMat G) kq))), .int (zI (mMat G (kq + 1)))]) rfl ?_
        refine lv_icmp_le (tgt := 31) hx hb dX9_bestOffset_26 (by decide) (fun c26 => ?_) (fun c26 => ?_)
        · skip
          have c26 : (mMat G (kq + 1)) ≤ (mMat G (mBest (mMat G) kq)) := (cmp_le (zI_toInt (by omega) (by omega)) (zI_toInt (by omega) (by omega))).mp c26
          have e9 : mBest (mMat G) kq = mBest (mMat G) (kq + 1) := by simp only [mBest]; rw [if_neg (by omega)]
          rw [e9] at hl
          refine lv_iinc (v := nI (kq + 1 + 1)) (lv' := [(2, .int (nI (kq + 1 + 1))), (0, .ref (ad 0)), (1, .int (nI (mBest (mMat G) (kq + 1))))]) hx hb dX9_bestOffset_31 hl (k := 2) rfl (by rw [show (Int32.ofInt 1 : Int32) = nI 1 from rfl, nI_add]) (by decide) rfl (fun ls hl => ?_)
          refine lv_goto (tgt := 4) hx hb dX9_bestOffset_34 (by decide) ?_
          exact ihq4 (kq + 1) (by omega) (by omega) _ _ _ hG (lv_sub hl [1, 2, 0] rfl)
        · skip
          have c26 : ¬ ((mMat G (kq + 1)) ≤ (mMat G (mBest (mMat G) kq))) := fun z9 => c26 ((cmp_le (zI_toInt (by omega) (by omega)) (zI_toInt (by omega) (by omega))).mpr z9)
          refine lv_iload_n hx hb dX9_bestOffset_29 rfl (lv_at hl 2 rfl) ?_
          refine g_top (y := nI (mBest (mMat G) (kq + 1))) (by simp only [mBest]; rw [if_pos (by omega)]) ?_
          refine lv_istore_n (lv' := [(1, .int (nI (mBest (mMat G) (kq + 1)))), (0, .ref (ad 0)), (2, .int (nI (kq + 1)))]) hx hb dX9_bestOffset_30 rfl hl (by decide) rfl (fun ls hl => ?_)
          refine lv_iinc (v := nI (kq + 1 + 1)) (lv' := [(2, .int (nI (kq + 1 + 1))), (1, .int (nI (mBest (mMat G) (kq + 1)))), (0, .ref (ad 0))]) hx hb dX9_bestOffset_31 hl (k := 2) rfl (by rw [show (Int32.ofInt 1 : Int32) = nI 1 from rfl, nI_add]) (by decide) rfl (fun ls hl => ?_)
          refine lv_goto (tgt := 4) hx hb dX9_bestOffset_34 (by decide) ?_
          exact ihq4 (kq + 1) (by omega) (by omega) _ _ _ hG (lv_sub hl [2, 1, 0] rfl)
  exact LLq4 _ 0 (by omega) (Nat.lt_succ_self _) _ _ _ hG (lv_sub hl [2, 1, 0] rfl)

abbrev PX9_bit (ad : Nat → Nat) (A : Nat → Nat → Int32) (J : Nat → Nat → Int64) (G : Nat → Nat → Int) (nq : Nat) (zq : Int) : Option Value → (Nat → Nat → Int32) → (Nat → Nat → Int64) → Prop := fun v_ A1 J1 => (v_ = some (.int (zI (G 37 zq.toNat))) ∧ A = A1 ∧ J = J1 ∧ (0 ≤ zq ∧ zq < G 28 10))
abbrev EX9_bit (ad : Nat → Nat) (A : Nat → Nat → Int32) (J : Nat → Nat → Int64) (G : Nat → Nat → Int) (nq : Nat) (zq : Int) : String → (Nat → Nat → Int32) → (Nat → Nat → Int64) → Prop := fun e_ A1 J1 => (e_ = "java/lang/IndexOutOfBoundsException" ∧ A = A1 ∧ J = J1 ∧ (¬ (0 ≤ zq ∧ zq < G 28 10)))
set_option maxHeartbeats 4000000 in
set_option maxRecDepth 100000 in
theorem cX9_bitC (l : Launch) (D : va_G) (cy : Nat → ClassId) (base : Nat) (ad : Nat → Nat) (n : Nat) (A : Nat → Nat → Int32) (J : Nat → Nat → Int64) (G : Nat → Nat → Int) (nq : Nat) (zq : Int) (hst : l.stackTraces = false) (hnq : nq = n) (hC : CAll nq A J G) (hzq : -2147483648 ≤ zq ∧ zq < 2147483648) : gMetX l yX9_bit wsX9_bit ({ frames := 6, cells := 1, slots := 6, locals := 100 } : Room) D cy base ad n A J [.ref (ad 0), .int (zI zq)] (PX9_bit ad A J G nq zq) (EX9_bit ad A J G nq zq) 1 6 := by
  refine gx_ofW (cc := cX9_bit) (maxL := 2) (ret := (some .int)) (by decide) rfl (Nat.le_of_ble_eq_true rfl) ?_
  intro pM eM sM mM aM bM methM cM H locs ls hx hb hr hts hown hlocks hml hout hE hG hl
  have hl : lv_has ls 2 [(0, .ref (ad 0)), (1, .int (zI zq))] := hl
  have hinX3 : ∀ w ∈ u_ws RX3 TX3 3, w ∈ wsX9_bit := by decide +kernel
  have hinX9 : ∀ w ∈ u_ws RX9 TX9 6, w ∈ wsX9_bit := by decide +kernel
  have hC0 := hC
  rw [hnq] at hC
  obtain ⟨hct, hn, hT, hFs, hpr, hz, hU, hD, hso, hse, hli, hsy, hde, hcd, hok, hdv, hdr, hsn, hol, hln⟩ := id hC
  have hta := hok.2.2.1
  have hl1 := hli.1
  have hl2 := hli.2.1
  have ni1 : (nI 1).toInt = 1 := by decide
  refine lv_aload_n hx hb dX9_bit_0 rfl (lv_at hl 0 rfl) ?_
  refine g_get (C := RX9) (T := TX9) (NN := 6) (ci := 9) hx hb hts hinX9 hown hE hG (k := 0) (by omega) rfl rfl 1 (by decide) (hts (.fieldLink RX9 19 "Commutator" "line" "LCommutator$Line;") (List.mem_of_getElem? (i := 3) rfl)) rfl (v := .ref (ad 4)) rfl dX9_bit_1 ?_
  refine lv_iload_n hx hb dX9_bit_4 rfl (lv_at hl 1 rfl) ?_
  refine lv_iconst (v := nI 1) hx hb dX9_bit_5 (by decide) ?_
  refine g_callV (As := [.int (zI zq), .int (nI 1)]) (rest := []) (r := (RX3, TX3, 3)) ⟨hx, hb, hml, hown, hts⟩ hE hG (cX3_holdsC l D cy base ad n A J ((G 28 12).toNat) ((G 28 12).toNat + (G 28 10).toNat) (zI zq) (nI 1) hl1 hl2 (by omega) (by omega)) (cwV 2 hts gX9_bit_X3_holds rfl rfl rfl (by decide +kernel) ⟨Nat.le_of_ble_eq_true rfl, Nat.le_of_ble_eq_true rfl⟩) (by omega) rfl rfl rfl hl.1 rfl (Nat.le_of_ble_eq_true rfl) dX9_bit_6 ⟨(Nat.le_of_ble_eq_true rfl), (Nat.le_of_ble_eq_true rfl)⟩ (fun v_ A6 J6 H locs hp hG => ?_)
  rcases hp with ⟨rfl, rfl, rfl, hC_6⟩ | ⟨rfl, rfl, rfl, hC_6⟩
  · refine W.eq (g2 := F0 mM 9 ls [.int (nI 1)]) rfl ?_
    rw [zI_toInt (by omega) (by omega), ni1] at hC_6
    refine lv_if_ne (tgt := 20) hx hb dX9_bit_9 (by decide) (fun c9 => ?_) (fun c9 => ?_)
    · skip
      refine lv_aload_n hx hb dX9_bit_20 rfl (lv_at hl 0 rfl) ?_
      refine g_get (C := RX9) (T := TX9) (NN := 6) (ci := 9) hx hb hts hinX9 hown hE hG (k := 0) (by omega) rfl rfl 1 (by decide) (hts (.fieldLink RX9 19 "Commutator" "line" "LCommutator$Line;") (List.mem_of_getElem? (i := 3) rfl)) rfl (v := .ref (ad 4)) rfl dX9_bit_21 ?_
      refine lv_iload_n hx hb dX9_bit_24 rfl (lv_at hl 1 rfl) ?_
      refine g_top (y := nI zq.toNat) (zI_nat (by omega)) ?_
      refine g_callV (As := [.int (nI zq.toNat)]) (rest := []) (r := (RX3, TX3, 3)) ⟨hx, hb, hml, hown, hts⟩ hE hG (cX3_lookC l D cy base ad n A J ((G 28 12).toNat) ((G 28 12).toNat + (G 28 10).toNat) zq.toNat hl1 hl2 (by omega) (by omega) (by omega)) (cwV 1 hts gX9_bit_X3_look rfl rfl rfl (by decide +kernel) ⟨Nat.le_of_ble_eq_true rfl, Nat.le_of_ble_eq_true rfl⟩) (by omega) rfl rfl rfl hl.1 rfl (Nat.le_of_ble_eq_true rfl) dX9_bit_25 ⟨(Nat.le_of_ble_eq_true rfl), (Nat.le_of_ble_eq_true rfl)⟩ (fun v_ A25 J25 H locs hp hG => ?_)
      obtain ⟨rfl, rfl, rfl⟩ := hp
      refine W.eq (g2 := F0 mM 28 ls [.int (A 5 (((G 28 12).toNat) + zq.toNat))]) rfl ?_
      exact gx_iret hx hb hr hlocks hG (Nat.le_of_ble_eq_true rfl) (Nat.le_of_ble_eq_true rfl) ⟨(by rw [hli.2.2 _ (by omega)]), rfl, rfl, by omega⟩ dX9_bit_28
    · skip
      exact absurd c9 (by decide)
  · refine W.eq (g2 := F0 mM 9 ls [.int (nI 0)]) rfl ?_
    rw [zI_toInt (by omega) (by omega), ni1] at hC_6
    refine lv_if_ne (tgt := 20) hx hb dX9_bit_9 (by decide) (fun c9 => ?_) (fun c9 => ?_)
    · skip
      exact absurd c9 (by decide)
    · skip
      exact gx_throw (cls := "java/lang/IndexOutOfBoundsException") (ik := 107) (ic := 109) hx hb hst hown (by decide +kernel) (hts (.classLink RX9 107 "java/lang/IndexOutOfBoundsException") (List.mem_of_getElem? (i := 1) rfl)) (hts (.initialized "java/lang/IndexOutOfBoundsException") (List.mem_of_getElem? (i := 2) rfl)) (vxg_IO (fun w9 h9 => hts w9 (List.mem_cons_of_mem _ (List.mem_append_right _ h9)))) vxo_IO hE hG (hl.1.trans hml.symm) dX9_bit_12 dX9_bit_15 dX9_bit_16 dX9_bit_19 hout (Nat.le_of_ble_eq_true rfl) (Nat.le_of_ble_eq_true rfl) (Nat.le_of_ble_eq_true rfl) (Nat.le_of_ble_eq_true rfl) hlocks ⟨rfl, rfl, rfl, (by first | assumption | omega)⟩ (Nat.le_of_ble_eq_true rfl) (Nat.le_of_ble_eq_true rfl)

abbrev PX9_flip (ad : Nat → Nat) (A : Nat → Nat → Int32) (J : Nat → Nat → Int64) (G : Nat → Nat → Int) (nq : Nat) (zq : Int) : Option Value → (Nat → Nat → Int32) → (Nat → Nat → Int64) → Prop := fun v_ A1 J1 => (v_ = some (.int (zI (1 - G 37 zq.toNat))) ∧ J = J1 ∧ (0 ≤ zq ∧ zq < G 28 10) ∧ (CAll nq A1 J1 (gu G 37 zq.toNat (1 - G 37 zq.toNat))) ∧ (∀ k, k ≠ 5 → A1 k = A k))
abbrev EX9_flip (ad : Nat → Nat) (A : Nat → Nat → Int32) (J : Nat → Nat → Int64) (G : Nat → Nat → Int) (nq : Nat) (zq : Int) : String → (Nat → Nat → Int32) → (Nat → Nat → Int64) → Prop := fun e_ A1 J1 => (e_ = "java/lang/IndexOutOfBoundsException" ∧ A = A1 ∧ J = J1 ∧ (¬ (0 ≤ zq ∧ zq < G 28 10)))
set_option maxHeartbeats 4000000 in
set_option maxRecDepth 100000 in
theorem cX9_flipC (l : Launch) (D : va_G) (cy : Nat → ClassId) (base : Nat) (ad : Nat → Nat) (n : Nat) (A : Nat → Nat → Int32) (J : Nat → Nat → Int64) (G : Nat → Nat → Int) (nq : Nat) (zq : Int) (hst : l.stackTraces = false) (hnq : nq = n) (hC : CAll nq A J G) (hzq : -2147483648 ≤ zq ∧ zq < 2147483648) : gMetX l yX9_flip wsX9_flip ({ frames := 6, cells := 1, slots := 6, locals := 100 } : Room) D cy base ad n A J [.ref (ad 0), .int (zI zq)] (PX9_flip ad A J G nq zq) (EX9_flip ad A J G nq zq) 1 6 := by
  refine gx_ofW (cc := cX9_flip) (maxL := 2) (ret := (some .int)) (by decide) rfl (Nat.le_of_ble_eq_true rfl) ?_
  intro pM eM sM mM aM bM methM cM H locs ls hx hb hr hts hown hlocks hml hout hE hG hl
  have hl : lv_has ls 2 [(0, .ref (ad 0)), (1, .int (zI zq))] := hl
  have hinX3 : ∀ w ∈ u_ws RX3 TX3 3, w ∈ wsX9_flip := by decide +kernel
  have hinX9 : ∀ w ∈ u_ws RX9 TX9 6, w ∈ wsX9_flip := by decide +kernel
  have hC0 := hC
  rw [hnq] at hC
  obtain ⟨hct, hn, hT, hFs, hpr, hz, hU, hD, hso, hse, hli, hsy, hde, hcd, hok, hdv, hdr, hsn, hol, hln⟩ := id hC
  have hta := hok.2.2.1
  have hl1 := hli.1
  have hl2 := hli.2.1
  have ni1 : (nI 1).toInt = 1 := by decide
  refine lv_aload_n hx hb dX9_flip_0 rfl (lv_at hl 0 rfl) ?_
  refine g_get (C := RX9) (T := TX9) (NN := 6) (ci := 9) hx hb hts hinX9 hown hE hG (k := 0) (by omega) rfl rfl 1 (by decide) (hts (.fieldLink RX9 19 "Commutator" "line" "LCommutator$Line;") (List.mem_of_getElem? (i := 3) rfl)) rfl (v := .ref (ad 4)) rfl dX9_flip_1 ?_
  refine lv_iload_n hx hb dX9_flip_4 rfl (lv_at hl 1 rfl) ?_
  refine lv_iconst (v := nI 1) hx hb dX9_flip_5 (by decide) ?_
  refine g_callV (As := [.int (zI zq), .int (nI 1)]) (rest := []) (r := (RX3, TX3, 3)) ⟨hx, hb, hml, hown, hts⟩ hE hG (cX3_holdsC l D cy base ad n A J ((G 28 12).toNat) ((G 28 12).toNat + (G 28 10).toNat) (zI zq) (nI 1) hl1 hl2 (by omega) (by omega)) (cwV 2 hts gX9_flip_X3_holds rfl rfl rfl (by decide +kernel) ⟨Nat.le_of_ble_eq_true rfl, Nat.le_of_ble_eq_true rfl⟩) (by omega) rfl rfl rfl hl.1 rfl (Nat.le_of_ble_eq_true rfl) dX9_flip_6 ⟨(Nat.le_of_ble_eq_true rfl), (Nat.le_of_ble_eq_true rfl)⟩ (fun v_ A6 J6 H locs hp hG => ?_)
  rcases hp with ⟨rfl, rfl, rfl, hC_6⟩ | ⟨rfl, rfl, rfl, hC_6⟩
  · refine W.eq (g2 := F0 mM 9 ls [.int (nI 1)]) rfl ?_
    rw [zI_toInt (by omega) (by omega), ni1] at hC_6
    refine lv_if_ne (tgt := 20) hx hb dX9_flip_9 (by decide) (fun c9 => ?_) (fun c9 => ?_)
    · skip
      refine lv_aload_n hx hb dX9_flip_20 rfl (lv_at hl 0 rfl) ?_
      refine g_get (C := RX9) (T := TX9) (NN := 6) (ci := 9) hx hb hts hinX9 hown hE hG (k := 0) (by omega) rfl rfl 1 (by decide) (hts (.fieldLink RX9 19 "Commutator" "line" "LCommutator$Line;") (List.mem_of_getElem? (i := 3) rfl)) rfl (v := .ref (ad 4)) rfl dX9_flip_21 ?_
      refine lv_iload_n hx hb dX9_flip_24 rfl (lv_at hl 1 rfl) ?_
      refine g_top (y := nI zq.toNat) (zI_nat (by omega)) ?_
      refine g_callV (As := [.int (nI zq.toNat)]) (rest := []) (r := (RX3, TX3, 3)) ⟨hx, hb, hml, hown, hts⟩ hE hG (cX3_turnOverC l D cy base ad n A J ((G 28 12).toNat) ((G 28 12).toNat + (G 28 10).toNat) zq.toNat hl1 hl2 (by omega) (by omega) (by omega)) (cwV 1 hts gX9_flip_X3_turnOver rfl rfl rfl (by decide +kernel) ⟨Nat.le_of_ble_eq_true rfl, Nat.le_of_ble_eq_true rfl⟩) (by omega) rfl rfl rfl hl.1 rfl (Nat.le_of_ble_eq_true rfl) dX9_flip_25 ⟨(Nat.le_of_ble_eq_true rfl), (Nat.le_of_ble_eq_true rfl)⟩ (fun v_ A25 J25 H locs hp hG => ?_)
      obtain ⟨rfl, rfl, rfl⟩ := hp
      refine W.eq (g2 := F0 mM 28 ls [.int (A 5 (((G 28 12).toNat) + zq.toNat) ^^^ nI 1)]) rfl ?_
      have hx1 : A 5 ((G 28 12).toNat + zq.toNat) ^^^ nI 1 = zI (1 - G 37 zq.toNat) := by
        rw [hli.2.2 _ (by omega)]
        rcases hln zq.toNat with h9 | h9 <;> rw [h9] <;> decide
      exact gx_iret hx hb hr hlocks hG (Nat.le_of_ble_eq_true rfl) (Nat.le_of_ble_eq_true rfl) ⟨(by rw [hx1]), rfl, by omega, (by rw [hnq, hx1]; exact hC.flip (by omega)), fun k hk => gu_ne _ _ _ hk⟩ dX9_flip_28
    · skip
      exact absurd c9 (by decide)
  · refine W.eq (g2 := F0 mM 9 ls [.int (nI 0)]) rfl ?_
    rw [zI_toInt (by omega) (by omega), ni1] at hC_6
    refine lv_if_ne (tgt := 20) hx hb dX9_flip_9 (by decide) (fun c9 => ?_) (fun c9 => ?_)
    · skip
      exact absurd c9 (by decide)
    · skip
      exact gx_throw (cls := "java/lang/IndexOutOfBoundsException") (ik := 107) (ic := 109) hx hb hst hown (by decide +kernel) (hts (.classLink RX9 107 "java/lang/IndexOutOfBoundsException") (List.mem_of_getElem? (i := 1) rfl)) (hts (.initialized "java/lang/IndexOutOfBoundsException") (List.mem_of_getElem? (i := 2) rfl)) (vxg_IO (fun w9 h9 => hts w9 (List.mem_cons_of_mem _ (List.mem_append_right _ h9)))) vxo_IO hE hG (hl.1.trans hml.symm) dX9_flip_12 dX9_flip_15 dX9_flip_16 dX9_flip_19 hout (Nat.le_of_ble_eq_true rfl) (Nat.le_of_ble_eq_true rfl) (Nat.le_of_ble_eq_true rfl) (Nat.le_of_ble_eq_true rfl) hlocks ⟨rfl, rfl, rfl, (by first | assumption | omega)⟩ (Nat.le_of_ble_eq_true rfl) (Nat.le_of_ble_eq_true rfl)

abbrev PX9_cut (ad : Nat → Nat) (A : Nat → Nat → Int32) (J : Nat → Nat → Int64) (G : Nat → Nat → Int) (nq : Nat) (zq kq : Int) : Option Value → (Nat → Nat → Int32) → (Nat → Nat → Int64) → Prop := fun v_ A1 J1 => (v_ = some (.int (zI (G 28 10 - kq))) ∧ J = J1 ∧ (1 ≤ kq ∧ 0 ≤ zq ∧ zq < G 28 10 ∧ kq ≤ G 28 10 - zq) ∧ (CAll nq A1 J1 (mDrop G zq.toNat kq.toNat (G 28 10 - ((kq.toNat : Nat) : Int)).toNat)) ∧ (∀ k, 28 ≤ k → A1 k = A k))
abbrev EX9_cut (ad : Nat → Nat) (A : Nat → Nat → Int32) (J : Nat → Nat → Int64) (G : Nat → Nat → Int) (nq : Nat) (zq kq : Int) : String → (Nat → Nat → Int32) → (Nat → Nat → Int64) → Prop := fun e_ A1 J1 => (e_ = "java/lang/IllegalArgumentException" ∧ A = A1 ∧ J = J1 ∧ (kq < 1)) ∨ (e_ = "java/lang/IndexOutOfBoundsException" ∧ A = A1 ∧ J = J1 ∧ (1 ≤ kq ∧ ¬ (0 ≤ zq ∧ zq < G 28 10 ∧ kq ≤ G 28 10 - zq)))
set_option maxHeartbeats 4000000 in
set_option maxRecDepth 100000 in
theorem cX9_cutC (l : Launch) (D : va_G) (cy : Nat → ClassId) (base : Nat) (ad : Nat → Nat) (n : Nat) (A : Nat → Nat → Int32) (J : Nat → Nat → Int64) (G : Nat → Nat → Int) (nq : Nat) (zq kq : Int) (hst : l.stackTraces = false) (hnq : nq = n) (hC : CAll nq A J G) (hzq : -2147483648 ≤ zq ∧ zq < 2147483648) (hkq : -2147483648 ≤ kq ∧ kq < 2147483648) : gMetX l yX9_cut wsX9_cut ({ frames := 6, cells := 1, slots := 6, locals := 100 } : Room) D cy base ad n A J [.ref (ad 0), .int (zI zq), .int (zI kq)] (PX9_cut ad A J G nq zq kq) (EX9_cut ad A J G nq zq kq) 1 6 := by
  refine gx_ofW (cc := cX9_cut) (maxL := 3) (ret := (some .int)) (by decide) rfl (Nat.le_of_ble_eq_true rfl) ?_
  intro pM eM sM mM aM bM methM cM H locs ls hx hb hr hts hown hlocks hml hout hE hG hl
  have hl : lv_has ls 3 [(0, .ref (ad 0)), (1, .int (zI zq)), (2, .int (zI kq))] := hl
  have hinX3 : ∀ w ∈ u_ws RX3 TX3 3, w ∈ wsX9_cut := by decide +kernel
  have hinX9 : ∀ w ∈ u_ws RX9 TX9 6, w ∈ wsX9_cut := by decide +kernel
  have hC0 := hC
  rw [hnq] at hC
  obtain ⟨hct, hn, hT, hFs, hpr, hz, hU, hD, hso, hse, hli, hsy, hde, hcd, hok, hdv, hdr, hsn, hol, hln⟩ := id hC
  have hta := hok.2.2.1
  have hl1 := hli.1
  have hl2 := hli.2.1
  refine lv_iload_n hx hb dX9_cut_0 rfl (lv_at hl 2 rfl) ?_
  refine lv_iconst (v := nI 1) hx hb dX9_cut_1 (by decide) ?_
  refine lv_icmp_ge (tgt := 13) hx hb dX9_cut_2 (by decide) (fun c2 => ?_) (fun c2 => ?_)
  · skip
    have c2 : ((1 : Nat) : Int) ≤ kq := (cmp_le (nI_toInt (by omega)) (zI_toInt (by omega) (by omega))).mp c2
    refine lv_aload_n hx hb dX9_cut_13 rfl (lv_at hl 0 rfl) ?_
    refine g_get (C := RX9) (T := TX9) (NN := 6) (ci := 9) hx hb hts hinX9 hown hE hG (k := 0) (by omega) rfl rfl 1 (by decide) (hts (.fieldLink RX9 19 "Commutator" "line" "LCommutator$Line;") (List.mem_of_getElem? (i := 5) rfl)) rfl (v := .ref (ad 4)) rfl dX9_cut_14 ?_
    refine lv_iload_n hx hb dX9_cut_17 rfl (lv_at hl 1 rfl) ?_
    refine lv_iload_n hx hb dX9_cut_18 rfl (lv_at hl 2 rfl) ?_
    refine g_callV (As := [.int (zI zq), .int (zI kq)]) (rest := []) (r := (RX3, TX3, 3)) ⟨hx, hb, hml, hown, hts⟩ hE hG (cX3_holdsC l D cy base ad n A J ((G 28 12).toNat) ((G 28 12).toNat + (G 28 10).toNat) (zI zq) (zI kq) hl1 hl2 (by omega) (by omega)) (cwV 2 hts gX9_cut_X3_holds rfl rfl rfl (by decide +kernel) ⟨Nat.le_of_ble_eq_true rfl, Nat.le_of_ble_eq_true rfl⟩) (by omega) rfl rfl rfl hl.1 rfl (Nat.le_of_ble_eq_true rfl) dX9_cut_19 ⟨(Nat.le_of_ble_eq_true rfl), (Nat.le_of_ble_eq_true rfl)⟩ (fun v_ A19 J19 H locs hp hG => ?_)
    rcases hp with ⟨rfl, rfl, rfl, hC_19⟩ | ⟨rfl, rfl, rfl, hC_19⟩
    · refine W.eq (g2 := F0 mM 22 ls [.int (nI 1)]) rfl ?_
      rw [zI_toInt (z := zq) (by omega) (by omega), zI_toInt (z := kq) (by omega) (by omega)] at hC_19
      refine lv_if_ne (tgt := 33) hx hb dX9_cut_22 (by decide) (fun c22 => ?_) (fun c22 => ?_)
      · skip
        refine lv_aload_n hx hb dX9_cut_33 rfl (lv_at hl 0 rfl) ?_
        refine g_get (C := RX9) (T := TX9) (NN := 6) (ci := 9) hx hb hts hinX9 hown hE hG (k := 0) (by omega) rfl rfl 1 (by decide) (hts (.fieldLink RX9 19 "Commutator" "line" "LCommutator$Line;") (List.mem_of_getElem? (i := 5) rfl)) rfl (v := .ref (ad 4)) rfl dX9_cut_34 ?_
        refine lv_iload_n hx hb dX9_cut_37 rfl (lv_at hl 1 rfl) ?_
        refine g_top (y := nI zq.toNat) (zI_nat (by omega)) ?_
        refine lv_iload_n hx hb dX9_cut_38 rfl (lv_at hl 2 rfl) ?_
        refine g_top (y := nI kq.toNat) (zI_nat (by omega)) ?_
        refine g_callV (As := [.int (nI zq.toNat), .int (nI kq.toNat)]) (rest := []) (r := (RX3, TX3, 3)) ⟨hx, hb, hml, hown, hts⟩ hE hG (cX3_removeC l D cy base ad n A J ((G 28 12).toNat) ((G 28 12).toNat + (G 28 10).toNat) zq.toNat kq.toNat hl1 hl2 (by omega) (by omega) (by omega)) (cwV 2 hts gX9_cut_X3_remove rfl rfl rfl (by decide +kernel) ⟨Nat.le_of_ble_eq_true rfl, Nat.le_of_ble_eq_true rfl⟩) (by omega) rfl rfl rfl hl.1 rfl (Nat.le_of_ble_eq_true rfl) dX9_cut_39 ⟨(Nat.le_of_ble_eq_true rfl), (Nat.le_of_ble_eq_true rfl)⟩ (fun v_ A39 J39 H locs hp hG => ?_)
        obtain ⟨rfl, rfl, rfl⟩ := hp
        refine W.eq (g2 := F0 mM 42 ls []) rfl ?_
        refine lv_aload_n hx hb dX9_cut_42 rfl (lv_at hl 0 rfl) ?_
        refine g_get (C := RX9) (T := TX9) (NN := 6) (ci := 9) hx hb hts hinX9 hown hE hG (k := 0) (by omega) rfl rfl 1 (by decide) (hts (.fieldLink RX9 19 "Commutator" "line" "LCommutator$Line;") (List.mem_of_getElem? (i := 5) rfl)) rfl (v := .ref (ad 4)) rfl dX9_cut_43 ?_
        refine g_callV (As := []) (rest := []) (r := (RX3, TX3, 3)) ⟨hx, hb, hml, hown, hts⟩ hE hG (cX3_lengthC l D cy base ad n (gu (gr A 5 (va_cpy (A 5) (A 5) (((G 28 12).toNat) + zq.toNat + kq.toNat) (((G 28 12).toNat) + zq.toNat) (((G 28 12).toNat + (G 28 10).toNat) - (((G 28 12).toNat) + zq.toNat + kq.toNat)))) 4 2 (nI (((G 28 12).toNat + (G 28 10).toNat) - kq.toNat))) J ((G 28 12).toNat) ((G 28 12).toNat + (G 28 10).toNat - kq.toNat) (by rw [gu_at, if_neg (by omega), gr_ne _ _ (by decide)]; exact hl1) (by rw [gu_at, if_pos ⟨rfl, rfl⟩]) (by omega) (by omega)) (cwV 0 hts gX9_cut_X3_length rfl rfl rfl (by decide +kernel) ⟨Nat.le_of_ble_eq_true rfl, Nat.le_of_ble_eq_true rfl⟩) (by omega) rfl rfl rfl hl.1 rfl (Nat.le_of_ble_eq_true rfl) dX9_cut_46 ⟨(Nat.le_of_ble_eq_true rfl), (Nat.le_of_ble_eq_true rfl)⟩ (fun v_ A46 J46 H locs hp hG => ?_)
        obtain ⟨rfl, rfl, rfl⟩ := hp
        refine W.eq (g2 := F0 mM 49 ls [.int (nI (((G 28 12).toNat + (G 28 10).toNat - kq.toNat) - ((G 28 12).toNat)))]) rfl ?_
        exact gx_iret hx hb hr hlocks hG (Nat.le_of_ble_eq_true rfl) (Nat.le_of_ble_eq_true rfl) ⟨(by rw [zI_nat (by omega)]; congr 3; omega), rfl, by omega, (by rw [hnq]; exact hC.cut (by omega) (by omega) rfl rfl), fun k hk => by rw [gu_ne _ _ _ (by omega), gr_ne _ _ (by omega)]⟩ dX9_cut_49
      · skip
        exact absurd c22 (by decide)
    · refine W.eq (g2 := F0 mM 22 ls [.int (nI 0)]) rfl ?_
      rw [zI_toInt (z := zq) (by omega) (by omega), zI_toInt (z := kq) (by omega) (by omega)] at hC_19
      refine lv_if_ne (tgt := 33) hx hb dX9_cut_22 (by decide) (fun c22 => ?_) (fun c22 => ?_)
      · skip
        exact absurd c22 (by decide)
      · skip
        exact gx_throw (cls := "java/lang/IndexOutOfBoundsException") (ik := 107) (ic := 109) hx hb hst hown (by decide +kernel) (hts (.classLink RX9 107 "java/lang/IndexOutOfBoundsException") (List.mem_of_getElem? (i := 3) rfl)) (hts (.initialized "java/lang/IndexOutOfBoundsException") (List.mem_of_getElem? (i := 4) rfl)) (vxg_IO (fun w9 h9 => hts w9 (List.mem_cons_of_mem _ (List.mem_append_right _ h9)))) vxo_IO hE hG (hl.1.trans hml.symm) dX9_cut_25 dX9_cut_28 dX9_cut_29 dX9_cut_32 hout (Nat.le_of_ble_eq_true rfl) (Nat.le_of_ble_eq_true rfl) (Nat.le_of_ble_eq_true rfl) (Nat.le_of_ble_eq_true rfl) hlocks (Or.inr ⟨rfl, rfl, rfl, (by first | assumption | omega)⟩) (Nat.le_of_ble_eq_true rfl) (Nat.le_of_ble_eq_true rfl)
  · skip
    have c2 : ¬ (((1 : Nat) : Int) ≤ kq) := fun z9 => c2 ((cmp_le (nI_toInt (by omega)) (zI_toInt (by omega) (by omega))).mpr z9)
    exact gx_throw (cls := "java/lang/IllegalArgumentException") (ik := 55) (ic := 57) hx hb hst hown (by decide +kernel) (hts (.classLink RX9 55 "java/lang/IllegalArgumentException") (List.mem_of_getElem? (i := 1) rfl)) (hts (.initialized "java/lang/IllegalArgumentException") (List.mem_of_getElem? (i := 2) rfl)) (vxg_IA (fun w9 h9 => hts w9 (List.mem_cons_of_mem _ (List.mem_append_left _ (List.mem_append_right _ h9))))) vxo_IA hE hG (hl.1.trans hml.symm) dX9_cut_5 dX9_cut_8 dX9_cut_9 dX9_cut_12 hout (Nat.le_of_ble_eq_true rfl) (Nat.le_of_ble_eq_true rfl) (Nat.le_of_ble_eq_true rfl) (Nat.le_of_ble_eq_true rfl) hlocks (Or.inl ⟨rfl, rfl, rfl, (by first | assumption | omega)⟩) (Nat.le_of_ble_eq_true rfl) (Nat.le_of_ble_eq_true rfl)
