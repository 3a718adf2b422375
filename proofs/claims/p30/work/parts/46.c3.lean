abbrev PJ13_bitCount_95d88 (ad : Nat → Nat) (A : Nat → Nat → Int32) (J : Nat → Nat → Int64) (xq : Int64) : Option Value → (Nat → Nat → Int32) → (Nat → Nat → Int64) → Prop := fun v_ A1 J1 => (v_ = some (.int (nI (nCnt (lnat xq) 64))) ∧ A = A1 ∧ J = J1)
set_option maxHeartbeats 4000000 in
set_option maxRecDepth 100000 in
theorem cJ13_bitCount_95d88C (l : Launch) (D : va_G) (cy : Nat → ClassId) (base : Nat) (ad : Nat → Nat) (n : Nat) (A : Nat → Nat → Int32) (J : Nat → Nat → Int64) (xq : Int64)  : gMet l yJ13_bitCount_95d88 wsJ13_bitCount_95d88 ({ frames := 0, cells := 0, slots := 0, locals := 0 } : Room) D cy base ad n A J [.long xq] (PJ13_bitCount_95d88 ad A J xq) := by
  refine g_ofW (cc := cJ13_bitCount_95d88) (maxL := 2) (ret := (some .int)) (by decide) rfl (Nat.le_of_ble_eq_true rfl) ?_
  intro pM eM sM mM aM bM methM cM H locs ls hx hb hr hts hown hlocks hml hE hG hl
  have hl : lv_has ls 2 [(0, .long xq)] := hl
  refine lv_lload_n hx hb dJ13_bitCount_95d88_0 rfl (lv_at hl 0 rfl) ?_
  refine lv_lload_n hx hb dJ13_bitCount_95d88_1 rfl (lv_at hl 0 rfl) ?_
  refine lv_iconst (v := nI 1) hx hb dJ13_bitCount_95d88_2 (by decide) ?_
  refine lv_lushr (v := gushr xq (nI 1)) hx hb dJ13_bitCount_95d88_3 rfl ?_
  refine lv_ldc2 (v := 6148914691236517205) hx hb hown (hts (.constantLong RJ13 314 (6148914691236517205)) (List.mem_of_getElem? (i := 1) rfl)) dJ13_bitCount_95d88_4 ?_
  refine lv_land hx hb dJ13_bitCount_95d88_7 ?_
  refine lv_lsub hx hb dJ13_bitCount_95d88_8 ?_
  refine g_topl (y := lbp1 xq) rfl ?_
  refine lv_lstore_n (lv' := [(0, .long (lbp1 xq))]) hx hb dJ13_bitCount_95d88_9 rfl hl (by decide) rfl (fun ls hl => ?_)
  refine lv_lload_n hx hb dJ13_bitCount_95d88_10 rfl (lv_at hl 0 rfl) ?_
  refine lv_ldc2 (v := 3689348814741910323) hx hb hown (hts (.constantLong RJ13 316 (3689348814741910323)) (List.mem_of_getElem? (i := 2) rfl)) dJ13_bitCount_95d88_11 ?_
  refine lv_land hx hb dJ13_bitCount_95d88_14 ?_
  refine lv_lload_n hx hb dJ13_bitCount_95d88_15 rfl (lv_at hl 0 rfl) ?_
  refine lv_iconst (v := nI 2) hx hb dJ13_bitCount_95d88_16 (by decide) ?_
  refine lv_lushr (v := gushr (lbp1 xq) (nI 2)) hx hb dJ13_bitCount_95d88_17 rfl ?_
  refine lv_ldc2 (v := 3689348814741910323) hx hb hown (hts (.constantLong RJ13 316 (3689348814741910323)) (List.mem_of_getElem? (i := 2) rfl)) dJ13_bitCount_95d88_18 ?_
  refine lv_land hx hb dJ13_bitCount_95d88_21 ?_
  refine lv_ladd hx hb dJ13_bitCount_95d88_22 ?_
  refine g_topl (y := lbp2 (lbp1 xq)) rfl ?_
  refine lv_lstore_n (lv' := [(0, .long (lbp2 (lbp1 xq)))]) hx hb dJ13_bitCount_95d88_23 rfl hl (by decide) rfl (fun ls hl => ?_)
  refine lv_lload_n hx hb dJ13_bitCount_95d88_24 rfl (lv_at hl 0 rfl) ?_
  refine lv_lload_n hx hb dJ13_bitCount_95d88_25 rfl (lv_at hl 0 rfl) ?_
  refine lv_iconst (v := nI 4) hx hb dJ13_bitCount_95d88_26 (by decide) ?_
  refine lv_lushr (v := gushr (lbp2 (lbp1 xq)) (nI 4)) hx hb dJ13_bitCount_95d88_27 rfl ?_
  refine lv_ladd hx hb dJ13_bitCount_95d88_28 ?_
  refine lv_ldc2 (v := 1085102592571150095) hx hb hown (hts (.constantLong RJ13 318 (1085102592571150095)) (List.mem_of_getElem? (i := 3) rfl)) dJ13_bitCount_95d88_29 ?_
  refine lv_land hx hb dJ13_bitCount_95d88_32 ?_
  refine g_topl (y := lbp3 (lbp2 (lbp1 xq))) rfl ?_
  refine lv_lstore_n (lv' := [(0, .long (lbp3 (lbp2 (lbp1 xq))))]) hx hb dJ13_bitCount_95d88_33 rfl hl (by decide) rfl (fun ls hl => ?_)
  refine lv_lload_n hx hb dJ13_bitCount_95d88_34 rfl (lv_at hl 0 rfl) ?_
  refine lv_lload_n hx hb dJ13_bitCount_95d88_35 rfl (lv_at hl 0 rfl) ?_
  refine lv_bipush (v := nI 8) hx hb dJ13_bitCount_95d88_36 (by decide) ?_
  refine lv_lushr (v := gushr (lbp3 (lbp2 (lbp1 xq))) (nI 8)) hx hb dJ13_bitCount_95d88_38 rfl ?_
  refine lv_ladd hx hb dJ13_bitCount_95d88_39 ?_
  refine g_topl (y := lbp4 (lbp3 (lbp2 (lbp1 xq)))) rfl ?_
  refine lv_lstore_n (lv' := [(0, .long (lbp4 (lbp3 (lbp2 (lbp1 xq)))))]) hx hb dJ13_bitCount_95d88_40 rfl hl (by decide) rfl (fun ls hl => ?_)
  refine lv_lload_n hx hb dJ13_bitCount_95d88_41 rfl (lv_at hl 0 rfl) ?_
  refine lv_lload_n hx hb dJ13_bitCount_95d88_42 rfl (lv_at hl 0 rfl) ?_
  refine lv_bipush (v := nI 16) hx hb dJ13_bitCount_95d88_43 (by decide) ?_
  refine lv_lushr (v := gushr (lbp4 (lbp3 (lbp2 (lbp1 xq)))) (nI 16)) hx hb dJ13_bitCount_95d88_45 rfl ?_
  refine lv_ladd hx hb dJ13_bitCount_95d88_46 ?_
  refine g_topl (y := lbp5 (lbp4 (lbp3 (lbp2 (lbp1 xq))))) rfl ?_
  refine lv_lstore_n (lv' := [(0, .long (lbp5 (lbp4 (lbp3 (lbp2 (lbp1 xq))))))]) hx hb dJ13_bitCount_95d88_47 rfl hl (by decide) rfl (fun ls hl => ?_)
  refine lv_lload_n hx hb dJ13_bitCount_95d88_48 rfl (lv_at hl 0 rfl) ?_
  refine lv_lload_n hx hb dJ13_bitCount_95d88_49 rfl (lv_at hl 0 rfl) ?_
  refine lv_bipush (v := nI 32) hx hb dJ13_bitCount_95d88_50 (by decide) ?_
  refine lv_lushr (v := gushr (lbp5 (lbp4 (lbp3 (lbp2 (lbp1 xq))))) (nI 32)) hx hb dJ13_bitCount_95d88_52 rfl ?_
  refine lv_ladd hx hb dJ13_bitCount_95d88_53 ?_
  refine g_topl (y := lbp6 (lbp5 (lbp4 (lbp3 (lbp2 (lbp1 xq)))))) rfl ?_
  refine lv_lstore_n (lv' := [(0, .long (lbp6 (lbp5 (lbp4 (lbp3 (lbp2 (lbp1 xq)))))))]) hx hb dJ13_bitCount_95d88_54 rfl hl (by decide) rfl (fun ls hl => ?_)
  refine lv_lload_n hx hb dJ13_bitCount_95d88_55 rfl (lv_at hl 0 rfl) ?_
  refine lv_l2i (v := (lbp6 (lbp5 (lbp4 (lbp3 (lbp2 (lbp1 xq)))))).toInt32) hx hb dJ13_bitCount_95d88_56 rfl ?_
  refine lv_bipush (v := nI 127) hx hb dJ13_bitCount_95d88_57 (by decide) ?_
  refine lv_iand hx hb dJ13_bitCount_95d88_59 ?_
  exact g_iret hx hb hr hlocks hG ⟨congrArg (fun q9 => some (Value.int q9)) (lbp_all xq), rfl, rfl⟩ dJ13_bitCount_95d88_60

abbrev PJ6_bitCount_0f7a4 (ad : Nat → Nat) (A : Nat → Nat → Int32) (J : Nat → Nat → Int64) (bq : Nat) : Option Value → (Nat → Nat → Int32) → (Nat → Nat → Int64) → Prop := fun v_ A1 J1 => (v_ = some (.int (nI (nCnt bq 8))) ∧ A = A1 ∧ J = J1)
set_option maxHeartbeats 4000000 in
set_option maxRecDepth 100000 in
theorem cJ6_bitCount_0f7a4C (l : Launch) (D : va_G) (cy : Nat → ClassId) (base : Nat) (ad : Nat → Nat) (n : Nat) (A : Nat → Nat → Int32) (J : Nat → Nat → Int64) (bq : Nat) (hbq : bq < 256) : gMet l yJ6_bitCount_0f7a4 wsJ6_bitCount_0f7a4 ({ frames := 0, cells := 0, slots := 0, locals := 0 } : Room) D cy base ad n A J [.int (nI bq)] (PJ6_bitCount_0f7a4 ad A J bq) := by
  refine g_ofW (cc := cJ6_bitCount_0f7a4) (maxL := 1) (ret := (some .int)) (by decide) rfl (Nat.le_of_ble_eq_true rfl) ?_
  intro pM eM sM mM aM bM methM cM H locs ls hx hb hr hts hown hlocks hml hE hG hl
  have hl : lv_has ls 1 [(0, .int (nI bq))] := hl
  refine lv_iload_n hx hb dJ6_bitCount_0f7a4_0 rfl (lv_at hl 0 rfl) ?_
  refine lv_iload_n hx hb dJ6_bitCount_0f7a4_1 rfl (lv_at hl 0 rfl) ?_
  refine lv_iconst (v := nI 1) hx hb dJ6_bitCount_0f7a4_2 (by decide) ?_
  refine lv_iushr (v := gius (nI bq) (nI 1)) hx hb dJ6_bitCount_0f7a4_3 rfl ?_
  refine lv_ldcw (v := 1431655765) hx hb hown (hts (.constant RJ6 265 (1431655765)) (List.mem_of_getElem? (i := 1) rfl)) dJ6_bitCount_0f7a4_4 ?_
  refine lv_iand hx hb dJ6_bitCount_0f7a4_7 ?_
  refine lv_isub hx hb dJ6_bitCount_0f7a4_8 ?_
  refine g_top (y := ibc1 (nI bq)) rfl ?_
  refine lv_istore_n (lv' := [(0, .int (ibc1 (nI bq)))]) hx hb dJ6_bitCount_0f7a4_9 rfl hl (by decide) rfl (fun ls hl => ?_)
  refine lv_iload_n hx hb dJ6_bitCount_0f7a4_10 rfl (lv_at hl 0 rfl) ?_
  refine lv_ldcw (v := 858993459) hx hb hown (hts (.constant RJ6 266 (858993459)) (List.mem_of_getElem? (i := 2) rfl)) dJ6_bitCount_0f7a4_11 ?_
  refine lv_iand hx hb dJ6_bitCount_0f7a4_14 ?_
  refine lv_iload_n hx hb dJ6_bitCount_0f7a4_15 rfl (lv_at hl 0 rfl) ?_
  refine lv_iconst (v := nI 2) hx hb dJ6_bitCount_0f7a4_16 (by decide) ?_
  refine lv_iushr (v := gius (ibc1 (nI bq)) (nI 2)) hx hb dJ6_bitCount_0f7a4_17 rfl ?_
  refine lv_ldcw (v := 858993459) hx hb hown (hts (.constant RJ6 266 (858993459)) (List.mem_of_getElem? (i := 2) rfl)) dJ6_bitCount_0f7a4_18 ?_
  refine lv_iand hx hb dJ6_bitCount_0f7a4_21 ?_
  refine lv_iadd hx hb dJ6_bitCount_0f7a4_22 ?_
  refine g_top (y := ibc2 (ibc1 (nI bq))) rfl ?_
  refine lv_istore_n (lv' := [(0, .int (ibc2 (ibc1 (nI bq))))]) hx hb dJ6_bitCount_0f7a4_23 rfl hl (by decide) rfl (fun ls hl => ?_)
  refine lv_iload_n hx hb dJ6_bitCount_0f7a4_24 rfl (lv_at hl 0 rfl) ?_
  refine lv_iload_n hx hb dJ6_bitCount_0f7a4_25 rfl (lv_at hl 0 rfl) ?_
  refine lv_iconst (v := nI 4) hx hb dJ6_bitCount_0f7a4_26 (by decide) ?_
  refine lv_iushr (v := gius (ibc2 (ibc1 (nI bq))) (nI 4)) hx hb dJ6_bitCount_0f7a4_27 rfl ?_
  refine lv_iadd hx hb dJ6_bitCount_0f7a4_28 ?_
  refine lv_ldcw (v := 252645135) hx hb hown (hts (.constant RJ6 267 (252645135)) (List.mem_of_getElem? (i := 3) rfl)) dJ6_bitCount_0f7a4_29 ?_
  refine lv_iand hx hb dJ6_bitCount_0f7a4_32 ?_
  refine g_top (y := ibc3 (ibc2 (ibc1 (nI bq)))) rfl ?_
  refine lv_istore_n (lv' := [(0, .int (ibc3 (ibc2 (ibc1 (nI bq)))))]) hx hb dJ6_bitCount_0f7a4_33 rfl hl (by decide) rfl (fun ls hl => ?_)
  refine lv_iload_n hx hb dJ6_bitCount_0f7a4_34 rfl (lv_at hl 0 rfl) ?_
  refine lv_iload_n hx hb dJ6_bitCount_0f7a4_35 rfl (lv_at hl 0 rfl) ?_
  refine lv_bipush (v := nI 8) hx hb dJ6_bitCount_0f7a4_36 (by decide) ?_
  refine lv_iushr (v := gius (ibc3 (ibc2 (ibc1 (nI bq)))) (nI 8)) hx hb dJ6_bitCount_0f7a4_38 rfl ?_
  refine lv_iadd hx hb dJ6_bitCount_0f7a4_39 ?_
  refine g_top (y := ibc4 (ibc3 (ibc2 (ibc1 (nI bq))))) rfl ?_
  refine lv_istore_n (lv' := [(0, .int (ibc4 (ibc3 (ibc2 (ibc1 (nI bq))))))]) hx hb dJ6_bitCount_0f7a4_40 rfl hl (by decide) rfl (fun ls hl => ?_)
  refine lv_iload_n hx hb dJ6_bitCount_0f7a4_41 rfl (lv_at hl 0 rfl) ?_
  refine lv_iload_n hx hb dJ6_bitCount_0f7a4_42 rfl (lv_at hl 0 rfl) ?_
  refine lv_bipush (v := nI 16) hx hb dJ6_bitCount_0f7a4_43 (by decide) ?_
  refine lv_iushr (v := gius (ibc4 (ibc3 (ibc2 (ibc1 (nI bq))))) (nI 16)) hx hb dJ6_bitCount_0f7a4_45 rfl ?_
  refine lv_iadd hx hb dJ6_bitCount_0f7a4_46 ?_
  refine g_top (y := ibc5 (ibc4 (ibc3 (ibc2 (ibc1 (nI bq)))))) rfl ?_
  refine lv_istore_n (lv' := [(0, .int (ibc5 (ibc4 (ibc3 (ibc2 (ibc1 (nI bq)))))))]) hx hb dJ6_bitCount_0f7a4_47 rfl hl (by decide) rfl (fun ls hl => ?_)
  refine lv_iload_n hx hb dJ6_bitCount_0f7a4_48 rfl (lv_at hl 0 rfl) ?_
  refine lv_bipush (v := nI 63) hx hb dJ6_bitCount_0f7a4_49 (by decide) ?_
  refine lv_iand hx hb dJ6_bitCount_0f7a4_51 ?_
  exact g_iret hx hb hr hlocks hG ⟨congrArg (fun q9 => some (Value.int q9)) (ibc_all bq hbq), rfl, rfl⟩ dJ6_bitCount_0f7a4_52

abbrev PX5_spareBits (ad : Nat → Nat) (A : Nat → Nat → Int32) (J : Nat → Nat → Int64)  : Option Value → (Nat → Nat → Int32) → (Nat → Nat → Int64) → Prop := fun v_ A1 J1 => (v_ = some (.int (zI (192 - (gCnt J 4 : Int)))) ∧ A = A1 ∧ J = J1)
set_option maxHeartbeats 4000000 in
set_option maxRecDepth 100000 in
theorem cX5_spareBitsC (l : Launch) (D : va_G) (cy : Nat → ClassId) (base : Nat) (ad : Nat → Nat) (n : Nat) (A : Nat → Nat → Int32) (J : Nat → Nat → Int64)   : gMet l yX5_spareBits wsX5_spareBits ({ frames := 1, cells := 0, slots := 0, locals := 21 } : Room) D cy base ad n A J [.ref (ad 1)] (PX5_spareBits ad A J) := by
  refine g_ofW (cc := cX5_spareBits) (maxL := 3) (ret := (some .int)) (by decide) rfl (Nat.le_of_ble_eq_true rfl) ?_
  intro pM eM sM mM aM bM methM cM H locs ls hx hb hr hts hown hlocks hml hE hG hl
  have hl : lv_has ls 3 [(0, .ref (ad 1))] := hl
  have hinX5 : ∀ w ∈ u_ws RX5 TX5 3, w ∈ wsX5_spareBits := by decide +kernel
  refine lv_sipush (v := nI 192) hx hb dX5_spareBits_0 (by decide) ?_
  refine g_top (y := zI (192 - (gCnt J 0 : Int))) rfl ?_
  refine lv_istore_n (lv' := [(1, .int (zI (192 - (gCnt J 0 : Int)))), (0, .ref (ad 1))]) hx hb dX5_spareBits_3 rfl hl (by decide) rfl (fun ls hl => ?_)
  refine lv_iconst (v := nI 0) hx hb dX5_spareBits_4 (by decide) ?_
  refine lv_istore_n (lv' := [(2, .int (nI 0)), (1, .int (zI (192 - (gCnt J 0 : Int)))), (0, .ref (ad 1))]) hx hb dX5_spareBits_5 rfl hl (by decide) rfl (fun ls hl => ?_)
  have LLq6 : ∀ (fuel : Nat) (rq : Nat) (hrq : rq ≤ 4) (_ : 4 - rq < fuel) (H : Heap) (locs : List Loc) (ls : Array Slot), gH D base sM ad (33 + 2 * n) (gw cy ad n A J) H locs → lv_has ls 3 [(2, .int (nI rq)), (1, .int (zI (192 - (gCnt J rq : Int)))), (0, .ref (ad 1))] → W pM l eM ({ frames := 1, cells := 0, slots := 0, locals := 21 } : Room) sM mM aM bM methM cM H locs 0 0 (MQ bM (gPost D cy base ad n (PX5_spareBits ad A J)) aM sM 0 0 (fun q => base ≤ q)) (F0 mM 6 ls []) := by
    intro fuel
    induction fuel with
    | zero => intro rq hrq hms H locs ls hG hl; exact absurd hms (Nat.not_lt_zero _)
    | succ fuel ihq6 =>
      intro rq hrq hms H locs ls hG hl
      refine lv_iload_n hx hb dX5_spareBits_6 rfl (lv_at hl 0 rfl) ?_
      refine lv_iconst (v := nI 4) hx hb dX5_spareBits_7 (by decide) ?_
      refine lv_icmp_ge (tgt := 29) hx hb dX5_spareBits_8 (by decide) (fun c8 => ?_) (fun c8 => ?_)
      · skip
        have c8 : 4 ≤ rq := (nI_leI (by omega) (by omega)).mp c8
        refine lv_iload_n hx hb dX5_spareBits_29 rfl (lv_at hl 1 rfl) ?_
        exact g_iret hx hb hr hlocks hG ⟨(by rw [show rq = 4 from by omega]), rfl, rfl⟩ dX5_spareBits_30
      · skip
        have c8 : ¬ (4 ≤ rq) := fun z9 => c8 ((nI_leI (by omega) (by omega)).mpr z9)
        refine lv_iload_n hx hb dX5_spareBits_11 rfl (lv_at hl 1 rfl) ?_
        refine lv_aload_n hx hb dX5_spareBits_12 rfl (lv_at hl 2 rfl) ?_
        refine g_get (C := RX5) (T := TX5) (NN := 3) (ci := 5) hx hb hts hinX5 hown hE hG (k := 1) (by omega) rfl rfl 2 (by decide) (hts (.fieldLink RX5 17 "Commutator$PointTable" "usedBits" "[J") (List.mem_of_getElem? (i := 1) rfl)) rfl (v := .ref (ad 3)) rfl dX5_spareBits_13 ?_
        refine lv_iload_n hx hb dX5_spareBits_16 rfl (lv_at hl 0 rfl) ?_
        refine g_lald hx hb hE hG (k := 3) (by omega) rfl rq (rfl) (by omega) (by omega) dX5_spareBits_17 ?_
        refine g_callS (As := [.long (J 3 rq)]) (rest := [.int (zI (192 - (gCnt J rq : Int)))]) ⟨hx, hb, hml, hown, hts⟩ hE hG (cJ13_bitCount_95d88C l D cy base ad n A J (J 3 rq)) (va_cwS 1 hts gX5_spareBits_J13_bitCount_95d88 rfl rfl rfl (by decide +kernel) ⟨Nat.le_of_ble_eq_true rfl, Nat.le_of_ble_eq_true rfl⟩) rfl hl.1 rfl (Nat.le_of_ble_eq_true rfl) dX5_spareBits_18 ⟨Nat.zero_le _, Nat.zero_le _⟩ (fun v_ A18 J18 H locs hp hG => ?_)
        obtain ⟨rfl, rfl, rfl⟩ := hp
        refine W.eq (g2 := F0 mM 21 ls [.int (nI (nCnt (lnat (J 3 rq)) 64)), .int (zI (192 - (gCnt J rq : Int)))]) rfl ?_
        refine lv_isub hx hb dX5_spareBits_21 ?_
        refine g_top (y := zI ((192 - (gCnt J rq : Int)) - ((nCnt (lnat (J 3 rq)) 64 : Nat) : Int))) (zI_sub_in _ _) ?_
        refine g_top (y := zI (192 - (gCnt J (rq + 1) : Int))) (congrArg zI (by simp only [gCnt]; omega)) ?_
        refine lv_istore_n (lv' := [(1, .int (zI (192 - (gCnt J (rq + 1) : Int)))), (2, .int (nI rq)), (0, .ref (ad 1))]) hx hb dX5_spareBits_22 rfl hl (by decide) rfl (fun ls hl => ?_)
        refine lv_iinc (v := nI (rq + 1)) (lv' := [(2, .int (nI (rq + 1))), (1, .int (zI (192 - (gCnt J (rq + 1) : Int)))), (0, .ref (ad 1))]) hx hb dX5_spareBits_23 hl (k := 1) rfl (by rw [show (Int32.ofInt 1 : Int32) = nI 1 from rfl, nI_add]) (by decide) rfl (fun ls hl => ?_)
        refine lv_goto (tgt := 6) hx hb dX5_spareBits_26 (by decide) ?_
        exact ihq6 (rq + 1) (by omega) (by omega) _ _ _ hG (lv_sub hl [0, 1, 2] rfl)
  have hl := hl
  exact LLq6 _ 0 (by omega) (Nat.lt_succ_self _) _ _ _ hG (lv_sub hl [0, 1, 2] rfl)
