abbrev PX10_coded (ad : Nat → Nat) (A : Nat → Nat → Int32) (J : Nat → Nat → Int64) (G : Nat → Nat → Int) (kq : Nat) (vq : Int) : Option Value → (Nat → Nat → Int32) → (Nat → Nat → Int64) → Prop := fun v_ A1 J1 => (v_ = some (.int (zI (gEnc (G 30 kq) (G 29 kq) vq))) ∧ A = A1 ∧ J = J1)
set_option maxHeartbeats 4000000 in
set_option maxRecDepth 100000 in
theorem cX10_codedC (l : Launch) (D : va_G) (cy : Nat → ClassId) (base : Nat) (ad : Nat → Nat) (n : Nat) (A : Nat → Nat → Int32) (J : Nat → Nat → Int64) (G : Nat → Nat → Int) (kq : Nat) (vq : Int) (hM : MSt A G) (hk : kq < 12) (hT : TOk G kq) (hv : gLo (G 30 kq) (G 29 kq) ≤ vq ∧ vq ≤ gHi (G 30 kq) (G 29 kq)) : gMet l yX10_coded wsX10_coded ({ frames := 0, cells := 0, slots := 0, locals := 0 } : Room) D cy base ad n A J [.ref (ad 28), .int (nI kq), .int (zI vq)] (PX10_coded ad A J G kq vq) := by
  refine g_ofW (cc := cX10_coded) (maxL := 4) (ret := (some .int)) (by decide) rfl (Nat.le_of_ble_eq_true rfl) ?_
  intro pM eM sM mM aM bM methM cM H locs ls hx hb hr hts hown hlocks hml hE hG hl
  have hl : lv_has ls 4 [(0, .ref (ad 28)), (1, .int (nI kq)), (2, .int (zI vq))] := hl
  have hinX10 : ∀ w ∈ u_ws RX10 TX10 35, w ∈ wsX10_coded := by decide +kernel
  have hhf := gHf_range (w := G 29 kq) (by omega) (by omega)
  have hv1 : -2048 ≤ vq ∧ vq ≤ 4095 := by revert hv; simp only [gLo, gHi]; (repeat' split) <;> omega
  refine lv_iconst (v := nI 1) hx hb dX10_coded_0 (by decide) ?_
  refine lv_aload_n hx hb dX10_coded_1 rfl (lv_at hl 0 rfl) ?_
  refine g_get (C := RX10) (T := TX10) (NN := 35) (ci := 10) hx hb hts hinX10 hown hE hG (k := 28) (by omega) rfl rfl 1 (by decide) (hts (.fieldLink RX10 7 "CommutatorModel" "width" "[I") (List.mem_of_getElem? (i := 1) rfl)) rfl (v := .ref (ad 29)) rfl dX10_coded_2 ?_
  refine lv_iload_n hx hb dX10_coded_5 rfl (lv_at hl 1 rfl) ?_
  refine g_iald hx hb hE hG (k := 29) (by omega) rfl kq (rfl) (by omega) (by omega) dX10_coded_6 ?_
  refine g_top (y := zI (G 29 kq)) (hM.2 29 kq (by omega) (by omega)) ?_
  refine lv_iconst (v := nI 1) hx hb dX10_coded_7 (by decide) ?_
  refine lv_isub hx hb dX10_coded_8 ?_
  refine g_top (y := zI ((G 29 kq) - 1)) (zI_sub_in _ _) ?_
  refine lv_ishl hx hb dX10_coded_9 ?_
  refine g_top (y := zI (gHf (G 29 kq))) (shl_hf (by omega) (by omega)) ?_
  refine lv_istore_n (lv' := [(3, .int (zI (gHf (G 29 kq)))), (0, .ref (ad 28)), (1, .int (nI kq)), (2, .int (zI vq))]) hx hb dX10_coded_10 rfl hl (by decide) rfl (fun ls hl => ?_)
  refine lv_aload_n hx hb dX10_coded_11 rfl (lv_at hl 1 rfl) ?_
  refine g_get (C := RX10) (T := TX10) (NN := 35) (ci := 10) hx hb hts hinX10 hown hE hG (k := 28) (by omega) rfl rfl 2 (by decide) (hts (.fieldLink RX10 13 "CommutatorModel" "convention" "[I") (List.mem_of_getElem? (i := 2) rfl)) rfl (v := .ref (ad 30)) rfl dX10_coded_12 ?_
  refine lv_iload_n hx hb dX10_coded_15 rfl (lv_at hl 2 rfl) ?_
  refine g_iald hx hb hE hG (k := 30) (by omega) rfl kq (rfl) (by omega) (by omega) dX10_coded_16 ?_
  refine g_top (y := zI (G 30 kq)) (hM.2 30 kq (by omega) (by omega)) ?_
  refine lv_iconst (v := nI 1) hx hb dX10_coded_17 (by decide) ?_
  refine lv_icmp_ne (tgt := 35) hx hb dX10_coded_18 (by decide) (fun c18 => ?_) (fun c18 => ?_)
  · skip
    have c18 : ¬ ((G 30 kq) = ((1 : Nat) : Int)) := fun z9 => c18 ((cmp_eq (zI_toInt (by omega) (by omega)) (nI_toInt (by omega))).mpr z9)
    refine lv_aload_n hx hb dX10_coded_35 rfl (lv_at hl 1 rfl) ?_
    refine g_get (C := RX10) (T := TX10) (NN := 35) (ci := 10) hx hb hts hinX10 hown hE hG (k := 28) (by omega) rfl rfl 2 (by decide) (hts (.fieldLink RX10 13 "CommutatorModel" "convention" "[I") (List.mem_of_getElem? (i := 2) rfl)) rfl (v := .ref (ad 30)) rfl dX10_coded_36 ?_
    refine lv_iload_n hx hb dX10_coded_39 rfl (lv_at hl 2 rfl) ?_
    refine g_iald hx hb hE hG (k := 30) (by omega) rfl kq (rfl) (by omega) (by omega) dX10_coded_40 ?_
    refine g_top (y := zI (G 30 kq)) (hM.2 30 kq (by omega) (by omega)) ?_
    refine lv_iconst (v := nI 2) hx hb dX10_coded_41 (by decide) ?_
    refine lv_icmp_ne (tgt := 57) hx hb dX10_coded_42 (by decide) (fun c42 => ?_) (fun c42 => ?_)
    · skip
      have c42 : ¬ ((G 30 kq) = ((2 : Nat) : Int)) := fun z9 => c42 ((cmp_eq (zI_toInt (by omega) (by omega)) (nI_toInt (by omega))).mpr z9)
      refine lv_aload_n hx hb dX10_coded_57 rfl (lv_at hl 1 rfl) ?_
      refine g_get (C := RX10) (T := TX10) (NN := 35) (ci := 10) hx hb hts hinX10 hown hE hG (k := 28) (by omega) rfl rfl 2 (by decide) (hts (.fieldLink RX10 13 "CommutatorModel" "convention" "[I") (List.mem_of_getElem? (i := 2) rfl)) rfl (v := .ref (ad 30)) rfl dX10_coded_58 ?_
      refine lv_iload_n hx hb dX10_coded_61 rfl (lv_at hl 2 rfl) ?_
      refine g_iald hx hb hE hG (k := 30) (by omega) rfl kq (rfl) (by omega) (by omega) dX10_coded_62 ?_
      refine g_top (y := zI (G 30 kq)) (hM.2 30 kq (by omega) (by omega)) ?_
      refine lv_iconst (v := nI 3) hx hb dX10_coded_63 (by decide) ?_
      refine lv_icmp_ne (tgt := 73) hx hb dX10_coded_64 (by decide) (fun c64 => ?_) (fun c64 => ?_)
      · skip
        have c64 : ¬ ((G 30 kq) = ((3 : Nat) : Int)) := fun z9 => c64 ((cmp_eq (zI_toInt (by omega) (by omega)) (nI_toInt (by omega))).mpr z9)
        refine lv_iload_n hx hb dX10_coded_73 rfl (lv_at hl 3 rfl) ?_
        exact g_iret hx hb hr hlocks hG ⟨congrArg (fun q9 => some (Value.int (zI q9))) (by (simp only [gLo, gHi, gEnc, gDec]; repeat' split) <;> omega), rfl, rfl⟩ dX10_coded_74
      · skip
        have c64 : (G 30 kq) = ((3 : Nat) : Int) := (cmp_eq (zI_toInt (by omega) (by omega)) (nI_toInt (by omega))).mp c64
        refine lv_iload_n hx hb dX10_coded_67 rfl (lv_at hl 3 rfl) ?_
        refine lv_iload_n hx hb dX10_coded_68 rfl (lv_at hl 0 rfl) ?_
        refine lv_iadd hx hb dX10_coded_69 ?_
        refine g_top (y := zI (vq + (gHf (G 29 kq)))) (zI_add _ _) ?_
        refine lv_goto (tgt := 74) hx hb dX10_coded_70 (by decide) ?_
        exact g_iret hx hb hr hlocks hG ⟨congrArg (fun q9 => some (Value.int (zI q9))) (by (simp only [gLo, gHi, gEnc, gDec]; repeat' split) <;> omega), rfl, rfl⟩ dX10_coded_74
    · skip
      have c42 : (G 30 kq) = ((2 : Nat) : Int) := (cmp_eq (zI_toInt (by omega) (by omega)) (nI_toInt (by omega))).mp c42
      refine lv_iload_n hx hb dX10_coded_45 rfl (lv_at hl 3 rfl) ?_
      refine lv_if_ge (tgt := 55) hx hb dX10_coded_46 (by decide) (fun c46 => ?_) (fun c46 => ?_)
      · skip
        have c46 : nI 0 ≤ (zI vq) := c46
        have c46 : ((0 : Nat) : Int) ≤ vq := (cmp_le (nI_toInt (by omega)) (zI_toInt (by omega) (by omega))).mp c46
        refine lv_iload_n hx hb dX10_coded_55 rfl (lv_at hl 3 rfl) ?_
        exact g_iret hx hb hr hlocks hG ⟨congrArg (fun q9 => some (Value.int (zI q9))) (by (simp only [gLo, gHi, gEnc, gDec]; repeat' split) <;> omega), rfl, rfl⟩ dX10_coded_56
      · skip
        have c46 : ¬ (nI 0 ≤ (zI vq)) := c46
        have c46 : ¬ (((0 : Nat) : Int) ≤ vq) := fun z9 => c46 ((cmp_le (nI_toInt (by omega)) (zI_toInt (by omega) (by omega))).mpr z9)
        refine lv_iload_n hx hb dX10_coded_49 rfl (lv_at hl 0 rfl) ?_
        refine lv_iload_n hx hb dX10_coded_50 rfl (lv_at hl 3 rfl) ?_
        refine lv_isub hx hb dX10_coded_51 ?_
        refine g_top (y := zI ((gHf (G 29 kq)) - vq)) (zI_sub _ _) ?_
        refine lv_goto (tgt := 56) hx hb dX10_coded_52 (by decide) ?_
        exact g_iret hx hb hr hlocks hG ⟨congrArg (fun q9 => some (Value.int (zI q9))) (by (simp only [gLo, gHi, gEnc, gDec]; repeat' split) <;> omega), rfl, rfl⟩ dX10_coded_56
  · skip
    have c18 : (G 30 kq) = ((1 : Nat) : Int) := (cmp_eq (zI_toInt (by omega) (by omega)) (nI_toInt (by omega))).mp c18
    refine lv_iload_n hx hb dX10_coded_21 rfl (lv_at hl 3 rfl) ?_
    refine lv_if_ge (tgt := 33) hx hb dX10_coded_22 (by decide) (fun c22 => ?_) (fun c22 => ?_)
    · skip
      have c22 : nI 0 ≤ (zI vq) := c22
      have c22 : ((0 : Nat) : Int) ≤ vq := (cmp_le (nI_toInt (by omega)) (zI_toInt (by omega) (by omega))).mp c22
      refine lv_iload_n hx hb dX10_coded_33 rfl (lv_at hl 3 rfl) ?_
      exact g_iret hx hb hr hlocks hG ⟨congrArg (fun q9 => some (Value.int (zI q9))) (by (simp only [gLo, gHi, gEnc, gDec]; repeat' split) <;> omega), rfl, rfl⟩ dX10_coded_34
    · skip
      have c22 : ¬ (nI 0 ≤ (zI vq)) := c22
      have c22 : ¬ (((0 : Nat) : Int) ≤ vq) := fun z9 => c22 ((cmp_le (nI_toInt (by omega)) (zI_toInt (by omega) (by omega))).mpr z9)
      refine lv_iload_n hx hb dX10_coded_25 rfl (lv_at hl 3 rfl) ?_
      refine lv_iconst (v := nI 2) hx hb dX10_coded_26 (by decide) ?_
      refine lv_iload_n hx hb dX10_coded_27 rfl (lv_at hl 0 rfl) ?_
      refine lv_imul hx hb dX10_coded_28 ?_
      refine g_top (y := zI (2 * (gHf (G 29 kq)))) (zI_mul_ni _ _) ?_
      refine lv_iadd hx hb dX10_coded_29 ?_
      refine g_top (y := zI (vq + (2 * (gHf (G 29 kq))))) (zI_add _ _) ?_
      refine lv_goto (tgt := 34) hx hb dX10_coded_30 (by decide) ?_
      exact g_iret hx hb hr hlocks hG ⟨congrArg (fun q9 => some (Value.int (zI q9))) (by (simp only [gLo, gHi, gEnc, gDec]; repeat' split) <;> omega), rfl, rfl⟩ dX10_coded_34

abbrev PX10_read (ad : Nat → Nat) (A : Nat → Nat → Int32) (J : Nat → Nat → Int64) (G : Nat → Nat → Int) (kq : Nat) (bq : Int) : Option Value → (Nat → Nat → Int32) → (Nat → Nat → Int64) → Prop := fun v_ A1 J1 => (v_ = some (.int (zI (gDec (G 30 kq) (G 29 kq) bq))) ∧ A = A1 ∧ J = J1)
set_option maxHeartbeats 4000000 in
set_option maxRecDepth 100000 in
theorem cX10_readC (l : Launch) (D : va_G) (cy : Nat → ClassId) (base : Nat) (ad : Nat → Nat) (n : Nat) (A : Nat → Nat → Int32) (J : Nat → Nat → Int64) (G : Nat → Nat → Int) (kq : Nat) (bq : Int) (hM : MSt A G) (hk : kq < 12) (hT : TOk G kq) (hb1 : 0 ≤ bq ∧ bq < 4096) : gMet l yX10_read wsX10_read ({ frames := 0, cells := 0, slots := 0, locals := 0 } : Room) D cy base ad n A J [.ref (ad 28), .int (nI kq), .int (zI bq)] (PX10_read ad A J G kq bq) := by
  refine g_ofW (cc := cX10_read) (maxL := 4) (ret := (some .int)) (by decide) rfl (Nat.le_of_ble_eq_true rfl) ?_
  intro pM eM sM mM aM bM methM cM H locs ls hx hb hr hts hown hlocks hml hE hG hl
  have hl : lv_has ls 4 [(0, .ref (ad 28)), (1, .int (nI kq)), (2, .int (zI bq))] := hl
  have hinX10 : ∀ w ∈ u_ws RX10 TX10 35, w ∈ wsX10_read := by decide +kernel
  have hhf := gHf_range (w := G 29 kq) (by omega) (by omega)
  refine lv_iconst (v := nI 1) hx hb dX10_read_0 (by decide) ?_
  refine lv_aload_n hx hb dX10_read_1 rfl (lv_at hl 0 rfl) ?_
  refine g_get (C := RX10) (T := TX10) (NN := 35) (ci := 10) hx hb hts hinX10 hown hE hG (k := 28) (by omega) rfl rfl 1 (by decide) (hts (.fieldLink RX10 7 "CommutatorModel" "width" "[I") (List.mem_of_getElem? (i := 1) rfl)) rfl (v := .ref (ad 29)) rfl dX10_read_2 ?_
  refine lv_iload_n hx hb dX10_read_5 rfl (lv_at hl 1 rfl) ?_
  refine g_iald hx hb hE hG (k := 29) (by omega) rfl kq (rfl) (by omega) (by omega) dX10_read_6 ?_
  refine g_top (y := zI (G 29 kq)) (hM.2 29 kq (by omega) (by omega)) ?_
  refine lv_iconst (v := nI 1) hx hb dX10_read_7 (by decide) ?_
  refine lv_isub hx hb dX10_read_8 ?_
  refine g_top (y := zI ((G 29 kq) - 1)) (zI_sub_in _ _) ?_
  refine lv_ishl hx hb dX10_read_9 ?_
  refine g_top (y := zI (gHf (G 29 kq))) (shl_hf (by omega) (by omega)) ?_
  refine lv_istore_n (lv' := [(3, .int (zI (gHf (G 29 kq)))), (0, .ref (ad 28)), (1, .int (nI kq)), (2, .int (zI bq))]) hx hb dX10_read_10 rfl hl (by decide) rfl (fun ls hl => ?_)
  refine lv_aload_n hx hb dX10_read_11 rfl (lv_at hl 1 rfl) ?_
  refine g_get (C := RX10) (T := TX10) (NN := 35) (ci := 10) hx hb hts hinX10 hown hE hG (k := 28) (by omega) rfl rfl 2 (by decide) (hts (.fieldLink RX10 13 "CommutatorModel" "convention" "[I") (List.mem_of_getElem? (i := 2) rfl)) rfl (v := .ref (ad 30)) rfl dX10_read_12 ?_
  refine lv_iload_n hx hb dX10_read_15 rfl (lv_at hl 2 rfl) ?_
  refine g_iald hx hb hE hG (k := 30) (by omega) rfl kq (rfl) (by omega) (by omega) dX10_read_16 ?_
  refine g_top (y := zI (G 30 kq)) (hM.2 30 kq (by omega) (by omega)) ?_
  refine lv_iconst (v := nI 1) hx hb dX10_read_17 (by decide) ?_
  refine lv_icmp_ne (tgt := 36) hx hb dX10_read_18 (by decide) (fun c18 => ?_) (fun c18 => ?_)
  · skip
    have c18 : ¬ ((G 30 kq) = ((1 : Nat) : Int)) := fun z9 => c18 ((cmp_eq (zI_toInt (by omega) (by omega)) (nI_toInt (by omega))).mpr z9)
    refine lv_aload_n hx hb dX10_read_36 rfl (lv_at hl 1 rfl) ?_
    refine g_get (C := RX10) (T := TX10) (NN := 35) (ci := 10) hx hb hts hinX10 hown hE hG (k := 28) (by omega) rfl rfl 2 (by decide) (hts (.fieldLink RX10 13 "CommutatorModel" "convention" "[I") (List.mem_of_getElem? (i := 2) rfl)) rfl (v := .ref (ad 30)) rfl dX10_read_37 ?_
    refine lv_iload_n hx hb dX10_read_40 rfl (lv_at hl 2 rfl) ?_
    refine g_iald hx hb hE hG (k := 30) (by omega) rfl kq (rfl) (by omega) (by omega) dX10_read_41 ?_
    refine g_top (y := zI (G 30 kq)) (hM.2 30 kq (by omega) (by omega)) ?_
    refine lv_iconst (v := nI 2) hx hb dX10_read_42 (by decide) ?_
    refine lv_icmp_ne (tgt := 59) hx hb dX10_read_43 (by decide) (fun c43 => ?_) (fun c43 => ?_)
    · skip
      have c43 : ¬ ((G 30 kq) = ((2 : Nat) : Int)) := fun z9 => c43 ((cmp_eq (zI_toInt (by omega) (by omega)) (nI_toInt (by omega))).mpr z9)
      refine lv_aload_n hx hb dX10_read_59 rfl (lv_at hl 1 rfl) ?_
      refine g_get (C := RX10) (T := TX10) (NN := 35) (ci := 10) hx hb hts hinX10 hown hE hG (k := 28) (by omega) rfl rfl 2 (by decide) (hts (.fieldLink RX10 13 "CommutatorModel" "convention" "[I") (List.mem_of_getElem? (i := 2) rfl)) rfl (v := .ref (ad 30)) rfl dX10_read_60 ?_
      refine lv_iload_n hx hb dX10_read_63 rfl (lv_at hl 2 rfl) ?_
      refine g_iald hx hb hE hG (k := 30) (by omega) rfl kq (rfl) (by omega) (by omega) dX10_read_64 ?_
      refine g_top (y := zI (G 30 kq)) (hM.2 30 kq (by omega) (by omega)) ?_
      refine lv_iconst (v := nI 3) hx hb dX10_read_65 (by decide) ?_
      refine lv_icmp_ne (tgt := 75) hx hb dX10_read_66 (by decide) (fun c66 => ?_) (fun c66 => ?_)
      · skip
        have c66 : ¬ ((G 30 kq) = ((3 : Nat) : Int)) := fun z9 => c66 ((cmp_eq (zI_toInt (by omega) (by omega)) (nI_toInt (by omega))).mpr z9)
        refine lv_iload_n hx hb dX10_read_75 rfl (lv_at hl 3 rfl) ?_
        exact g_iret hx hb hr hlocks hG ⟨congrArg (fun q9 => some (Value.int (zI q9))) (by (simp only [gLo, gHi, gEnc, gDec]; repeat' split) <;> omega), rfl, rfl⟩ dX10_read_76
      · skip
        have c66 : (G 30 kq) = ((3 : Nat) : Int) := (cmp_eq (zI_toInt (by omega) (by omega)) (nI_toInt (by omega))).mp c66
        refine lv_iload_n hx hb dX10_read_69 rfl (lv_at hl 3 rfl) ?_
        refine lv_iload_n hx hb dX10_read_70 rfl (lv_at hl 0 rfl) ?_
        refine lv_isub hx hb dX10_read_71 ?_
        refine g_top (y := zI (bq - (gHf (G 29 kq)))) (zI_sub _ _) ?_
        refine lv_goto (tgt := 76) hx hb dX10_read_72 (by decide) ?_
        exact g_iret hx hb hr hlocks hG ⟨congrArg (fun q9 => some (Value.int (zI q9))) (by (simp only [gLo, gHi, gEnc, gDec]; repeat' split) <;> omega), rfl, rfl⟩ dX10_read_76
    · skip
      have c43 : (G 30 kq) = ((2 : Nat) : Int) := (cmp_eq (zI_toInt (by omega) (by omega)) (nI_toInt (by omega))).mp c43
      refine lv_iload_n hx hb dX10_read_46 rfl (lv_at hl 3 rfl) ?_
      refine lv_iload_n hx hb dX10_read_47 rfl (lv_at hl 0 rfl) ?_
      refine lv_icmp_lt (tgt := 57) hx hb dX10_read_48 (by decide) (fun c48 => ?_) (fun c48 => ?_)
      · skip
        have c48 : bq < (gHf (G 29 kq)) := (cmp_lt (zI_toInt (by omega) (by omega)) (zI_toInt (by omega) (by omega))).mp c48
        refine lv_iload_n hx hb dX10_read_57 rfl (lv_at hl 3 rfl) ?_
        exact g_iret hx hb hr hlocks hG ⟨congrArg (fun q9 => some (Value.int (zI q9))) (by (simp only [gLo, gHi, gEnc, gDec]; repeat' split) <;> omega), rfl, rfl⟩ dX10_read_58
      · skip
        have c48 : ¬ (bq < (gHf (G 29 kq))) := fun z9 => c48 ((cmp_lt (zI_toInt (by omega) (by omega)) (zI_toInt (by omega) (by omega))).mpr z9)
        refine lv_iload_n hx hb dX10_read_51 rfl (lv_at hl 0 rfl) ?_
        refine lv_iload_n hx hb dX10_read_52 rfl (lv_at hl 3 rfl) ?_
        refine lv_isub hx hb dX10_read_53 ?_
        refine g_top (y := zI ((gHf (G 29 kq)) - bq)) (zI_sub _ _) ?_
        refine lv_goto (tgt := 58) hx hb dX10_read_54 (by decide) ?_
        exact g_iret hx hb hr hlocks hG ⟨congrArg (fun q9 => some (Value.int (zI q9))) (by (simp only [gLo, gHi, gEnc, gDec]; repeat' split) <;> omega), rfl, rfl⟩ dX10_read_58
  · skip
    have c18 : (G 30 kq) = ((1 : Nat) : Int) := (cmp_eq (zI_toInt (by omega) (by omega)) (nI_toInt (by omega))).mp c18
    refine lv_iload_n hx hb dX10_read_21 rfl (lv_at hl 3 rfl) ?_
    refine lv_iload_n hx hb dX10_read_22 rfl (lv_at hl 0 rfl) ?_
    refine lv_icmp_lt (tgt := 34) hx hb dX10_read_23 (by decide) (fun c23 => ?_) (fun c23 => ?_)
    · skip
      have c23 : bq < (gHf (G 29 kq)) := (cmp_lt (zI_toInt (by omega) (by omega)) (zI_toInt (by omega) (by omega))).mp c23
      refine lv_iload_n hx hb dX10_read_34 rfl (lv_at hl 3 rfl) ?_
      exact g_iret hx hb hr hlocks hG ⟨congrArg (fun q9 => some (Value.int (zI q9))) (by (simp only [gLo, gHi, gEnc, gDec]; repeat' split) <;> omega), rfl, rfl⟩ dX10_read_35
    · skip
      have c23 : ¬ (bq < (gHf (G 29 kq))) := fun z9 => c23 ((cmp_lt (zI_toInt (by omega) (by omega)) (zI_toInt (by omega) (by omega))).mpr z9)
      refine lv_iload_n hx hb dX10_read_26 rfl (lv_at hl 3 rfl) ?_
      refine lv_iconst (v := nI 2) hx hb dX10_read_27 (by decide) ?_
      refine lv_iload_n hx hb dX10_read_28 rfl (lv_at hl 0 rfl) ?_
      refine lv_imul hx hb dX10_read_29 ?_
      refine g_top (y := zI (2 * (gHf (G 29 kq)))) (zI_mul_ni _ _) ?_
      refine lv_isub hx hb dX10_read_30 ?_
      refine g_top (y := zI (bq - (2 * (gHf (G 29 kq))))) (zI_sub _ _) ?_
      refine lv_goto (tgt := 35) hx hb dX10_read_31 (by decide) ?_
      exact g_iret hx hb hr hlocks hG ⟨congrArg (fun q9 => some (Value.int (zI q9))) (by (simp only [gLo, gHi, gEnc, gDec]; repeat' split) <;> omega), rfl, rfl⟩ dX10_read_35

abbrev PX10_bits (ad : Nat → Nat) (A : Nat → Nat → Int32) (J : Nat → Nat → Int64) (G : Nat → Nat → Int) (frq : Int) (mq : Nat) : Option Value → (Nat → Nat → Int32) → (Nat → Nat → Int64) → Prop := fun v_ A1 J1 => (v_ = some (.int (zI (mBits G frq mq))) ∧ A = A1 ∧ J = J1)
set_option maxHeartbeats 4000000 in
set_option maxRecDepth 100000 in
theorem cX10_bitsC (l : Launch) (D : va_G) (cy : Nat → ClassId) (base : Nat) (ad : Nat → Nat) (n : Nat) (A : Nat → Nat → Int32) (J : Nat → Nat → Int64) (G : Nat → Nat → Int) (frq : Int) (mq : Nat) (hP : ∀ j, A 38 j = zI (G 38 j)) (hp : mPast G) (hf : 0 ≤ frq) (hm : mq ≤ 12) (hfm : frq + (mq : Int) ≤ 8000) : gMet l yX10_bits wsX10_bits ({ frames := 0, cells := 0, slots := 0, locals := 0 } : Room) D cy base ad n A J [.ref (ad 28), .int (zI frq), .int (nI mq)] (PX10_bits ad A J G frq mq) := by
  refine g_ofW (cc := cX10_bits) (maxL := 5) (ret := (some .int)) (by decide) rfl (Nat.le_of_ble_eq_true rfl) ?_
  intro pM eM sM mM aM bM methM cM H locs ls hx hb hr hts hown hlocks hml hE hG hl
  have hl : lv_has ls 5 [(0, .ref (ad 28)), (1, .int (zI frq)), (2, .int (nI mq))] := hl
  have hinX10 : ∀ w ∈ u_ws RX10 TX10 35, w ∈ wsX10_bits := by decide +kernel
  refine lv_iconst (v := nI 0) hx hb dX10_bits_0 (by decide) ?_
  refine lv_istore_n (lv' := [(3, .int (nI 0)), (0, .ref (ad 28)), (1, .int (zI frq)), (2, .int (nI mq))]) hx hb dX10_bits_1 rfl hl (by decide) rfl (fun ls hl => ?_)
  refine lv_iload_n hx hb dX10_bits_2 rfl (lv_at hl 2 rfl) ?_
  refine lv_istore (lv' := [(4, .int (zI frq)), (3, .int (nI 0)), (0, .ref (ad 28)), (1, .int (zI frq)), (2, .int (nI mq))]) hx hb dX10_bits_3 hl (by decide) rfl (fun ls hl => ?_)
  have LLq5 : ∀ (fuel : Nat) (kq : Int) (hk1 : frq ≤ kq) (hk2 : kq ≤ frq + (mq : Int)) (_ : (frq + (mq : Int) - kq).toNat < fuel) (H : Heap) (locs : List Loc) (ls : Array Slot), gH D base sM ad (50 + 2 * n) (gw cy ad n A J) H locs → lv_has ls 5 [(0, .ref (ad 28)), (1, .int (zI frq)), (2, .int (nI mq)), (3, .int (zI (mBits G frq (kq - frq).toNat))), (4, .int (zI kq))] → W pM l eM ({ frames := 0, cells := 0, slots := 0, locals := 0 } : Room) sM mM aM bM methM cM H locs 0 0 (MQ bM (gPost D cy base ad n (PX10_bits ad A J G frq mq)) aM sM 0 0 (fun q => base ≤ q)) (F0 mM 5 ls []) := by
    intro fuel
    induction fuel with
    | zero => intro kq hk1 hk2 hms H locs ls hG hl; exact absurd hms (Nat.not_lt_zero _)
    | succ fuel ihq5 =>
      intro kq hk1 hk2 hms H locs ls hG hl
      refine lv_iload hx hb dX10_bits_5 (lv_at hl 4 rfl) ?_
      refine lv_iload_n hx hb dX10_bits_7 rfl (lv_at hl 1 rfl) ?_
      refine lv_iload_n hx hb dX10_bits_8 rfl (lv_at hl 2 rfl) ?_
      refine lv_iadd hx hb dX10_bits_9 ?_
      refine g_top (y := zI (frq + ((mq : Nat) : Int))) (zI_add_in _ _) ?_
      refine lv_icmp_ge (tgt := 31) hx hb dX10_bits_10 (by decide) (fun c10 => ?_) (fun c10 => ?_)
      · skip
        have c10 : (frq + ((mq : Nat) : Int)) ≤ kq := (cmp_le (zI_toInt (by omega) (by omega)) (zI_toInt (by omega) (by omega))).mp c10
        refine lv_iload_n hx hb dX10_bits_31 rfl (lv_at hl 3 rfl) ?_
        exact g_iret hx hb hr hlocks hG ⟨congrArg (fun q9 => some (Value.int (zI (mBits G frq q9)))) (by omega), rfl, rfl⟩ dX10_bits_32
      · skip
        have c10 : ¬ ((frq + ((mq : Nat) : Int)) ≤ kq) := fun z9 => c10 ((cmp_le (zI_toInt (by omega) (by omega)) (zI_toInt (by omega) (by omega))).mpr z9)
        have hmb := mBits_12 hp frq (q := (kq - frq).toNat) (by omega)
        have hpk := hp kq.toNat
        refine lv_iconst (v := nI 2) hx hb dX10_bits_13 (by decide) ?_
        refine lv_iload_n hx hb dX10_bits_14 rfl (lv_at hl 3 rfl) ?_
        refine lv_imul hx hb dX10_bits_15 ?_
        refine g_top (y := zI (2 * (mBits G frq (kq - frq).toNat))) (zI_mul_ni _ _) ?_
        refine lv_aload_n hx hb dX10_bits_16 rfl (lv_at hl 0 rfl) ?_
        refine g_get (C := RX10) (T := TX10) (NN := 35) (ci := 10) hx hb hts hinX10 hown hE hG (k := 28) (by omega) rfl rfl 13 (by decide) (hts (.fieldLink RX10 37 "CommutatorModel" "past" "[I") (List.mem_of_getElem? (i := 1) rfl)) rfl (v := .ref (ad 38)) rfl dX10_bits_17 ?_
        refine lv_iload hx hb dX10_bits_20 (lv_at hl 4 rfl) ?_
        refine g_iald hx hb hE hG (k := 38) (by omega) rfl kq.toNat (zI_nat (by omega)) (by omega) (by omega) dX10_bits_22 ?_
        refine g_top (y := zI (G 38 kq.toNat)) (hP kq.toNat) ?_
        refine lv_iadd hx hb dX10_bits_23 ?_
        refine g_top (y := zI ((2 * (mBits G frq (kq - frq).toNat)) + (G 38 kq.toNat))) (zI_add _ _) ?_
        refine g_top (y := zI (mBits G frq (kq + 1 - frq).toNat)) (by rw [show (kq + 1 - frq).toNat = (kq - frq).toNat + 1 by omega]; simp only [mBits]; rw [show frq + (((kq - frq).toNat : Nat) : Int) = kq by omega]) ?_
        refine lv_istore_n (lv' := [(3, .int (zI (mBits G frq (kq + 1 - frq).toNat))), (0, .ref (ad 28)), (1, .int (zI frq)), (2, .int (nI mq)), (4, .int (zI kq))]) hx hb dX10_bits_24 rfl hl (by decide) rfl (fun ls hl => ?_)
        refine lv_iinc (v := zI (kq + 1)) (lv' := [(4, .int (zI (kq + 1))), (3, .int (zI (mBits G frq (kq + 1 - frq).toNat))), (0, .ref (ad 28)), (1, .int (zI frq)), (2, .int (nI mq))]) hx hb dX10_bits_25 hl (k := 4) rfl (by rw [show (Int32.ofInt 1 : Int32) = zI (1) from rfl, zI_add]) (by decide) rfl (fun ls hl => ?_)
        refine lv_goto (tgt := 5) hx hb dX10_bits_28 (by decide) ?_
        exact ihq5 (kq + 1) (by omega) (by omega) (by omega) _ _ _ hG (lv_sub hl [2, 3, 4, 1, 0] rfl)
  have hl : lv_has ls 5 [(4, .int (zI frq)), (3, .int (zI (mBits G frq (frq - frq).toNat))), (0, .ref (ad 28)), (1, .int (zI frq)), (2, .int (nI mq))] := by rw [show (frq - frq).toNat = 0 by omega]; exact hl
  exact LLq5 _ frq (by omega) (by omega) (Nat.lt_succ_self _) _ _ _ hG (lv_sub hl [2, 3, 4, 1, 0] rfl)

abbrev PX10_matchesAt (ad : Nat → Nat) (A : Nat → Nat → Int32) (J : Nat → Nat → Int64) (G : Nat → Nat → Int) (oq : Nat) : Option Value → (Nat → Nat → Int32) → (Nat → Nat → Int64) → Prop := fun v_ A1 J1 => (v_ = some (.int (zI (mMat G oq))) ∧ A = A1 ∧ J = J1)
set_option maxHeartbeats 4000000 in
set_option maxRecDepth 100000 in
theorem cX10_matchesAtC (l : Launch) (D : va_G) (cy : Nat → ClassId) (base : Nat) (ad : Nat → Nat) (n : Nat) (A : Nat → Nat → Int32) (J : Nat → Nat → Int64) (G : Nat → Nat → Int) (oq : Nat) (hM : MPa A G) (hp : mPast G) (hta : 0 ≤ G 28 12 ∧ G 28 12 ≤ 8000) (ho : oq < 64) : gMet l yX10_matchesAt wsX10_matchesAt ({ frames := 1, cells := 0, slots := 0, locals := 24 } : Room) D cy base ad n A J [.ref (ad 28), .int (nI oq)] (PX10_matchesAt ad A J G oq) := by
  refine g_ofW (cc := cX10_matchesAt) (maxL := 4) (ret := (some .int)) (by decide) rfl (Nat.le_of_ble_eq_true rfl) ?_
  intro pM eM sM mM aM bM methM cM H locs ls hx hb hr hts hown hlocks hml hE hG hl
  have hl : lv_has ls 4 [(0, .ref (ad 28)), (1, .int (nI oq))] := hl
  have hinX10 : ∀ w ∈ u_ws RX10 TX10 35, w ∈ wsX10_matchesAt := by decide +kernel
  have hmr := mCnt_range G oq
  refine lv_iconst (v := nI 0) hx hb dX10_matchesAt_0 (by decide) ?_
  refine lv_istore_n (lv' := [(2, .int (nI 0)), (0, .ref (ad 28)), (1, .int (nI oq))]) hx hb dX10_matchesAt_1 rfl hl (by decide) rfl (fun ls hl => ?_)
  refine lv_iload_n hx hb dX10_matchesAt_2 rfl (lv_at hl 2 rfl) ?_
  refine lv_istore_n (lv' := [(3, .int (nI oq)), (2, .int (nI 0)), (0, .ref (ad 28)), (1, .int (nI oq))]) hx hb dX10_matchesAt_3 rfl hl (by decide) rfl (fun ls hl => ?_)
  have LLq4 : ∀ (fuel : Nat) (qq kq : Nat) (hk1 : kq = oq + 64 * qq) (hk2 : qq = 0 ∨ (oq + 64 * (qq - 1) + 8 : Int) ≤ G 28 12) (_ : 9000 - kq < fuel) (H : Heap) (locs : List Loc) (ls : Array Slot), gH D base sM ad (50 + 2 * n) (gw cy ad n A J) H locs → lv_has ls 4 [(0, .ref (ad 28)), (1, .int (nI oq)), (2, .int (zI (mCnt G oq qq))), (3, .int (nI kq))] → W pM l eM ({ frames := 1, cells := 0, slots := 0, locals := 24 } : Room) sM mM aM bM methM cM H locs 0 0 (MQ bM (gPost D cy base ad n (PX10_matchesAt ad A J G oq)) aM sM 0 0 (fun q => base ≤ q)) (F0 mM 4 ls []) := by
    intro fuel
    induction fuel with
    | zero => intro qq kq hk1 hk2 hms H locs ls hG hl; exact absurd hms (Nat.not_lt_zero _)
    | succ fuel ihq4 =>
      intro qq kq hk1 hk2 hms H locs ls hG hl
      refine lv_iload_n hx hb dX10_matchesAt_4 rfl (lv_at hl 3 rfl) ?_
      refine lv_bipush (v := nI 8) hx hb dX10_matchesAt_5 (by decide) ?_
      refine lv_iadd hx hb dX10_matchesAt_7 ?_
      refine g_top (y := nI (kq + 8)) (by rw [nI_add]) ?_
      refine lv_aload_n hx hb dX10_matchesAt_8 rfl (lv_at hl 0 rfl) ?_
      refine g_get (C := RX10) (T := TX10) (NN := 35) (ci := 10) hx hb hts hinX10 hown hE hG (k := 28) (by omega) rfl rfl 12 (by decide) (hts (.fieldLink RX10 164 "CommutatorModel" "taken" "I") (List.mem_of_getElem? (i := 1) rfl)) rfl (v := .int (A 28 12)) rfl dX10_matchesAt_9 ?_
      refine g_top (y := zI (G 28 12)) (hM.2) ?_
      refine lv_icmp_gt (tgt := 42) hx hb dX10_matchesAt_12 (by decide) (fun c12 => ?_) (fun c12 => ?_)
      · skip
        have c12 : (G 28 12) < ((kq + 8 : Nat) : Int) := (cmp_lt (zI_toInt (by omega) (by omega)) (nI_toInt (by omega))).mp c12
        refine lv_iload_n hx hb dX10_matchesAt_42 rfl (lv_at hl 2 rfl) ?_
        exact g_iret hx hb hr hlocks hG ⟨congrArg (fun q9 => some (Value.int (zI (mCnt G oq q9)))) (by omega), rfl, rfl⟩ dX10_matchesAt_43
      · skip
        have c12 : ¬ ((G 28 12) < ((kq + 8 : Nat) : Int)) := fun z9 => c12 ((cmp_lt (zI_toInt (by omega) (by omega)) (nI_toInt (by omega))).mpr z9)
        have hmq := hmr qq
        have hmb := mBits_12 hp ((kq : Nat) : Int) (q := 8) (by omega)
        refine lv_iload_n hx hb dX10_matchesAt_15 rfl (lv_at hl 2 rfl) ?_
        refine lv_aload_n hx hb dX10_matchesAt_16 rfl (lv_at hl 0 rfl) ?_
        refine lv_iload_n hx hb dX10_matchesAt_17 rfl (lv_at hl 3 rfl) ?_
        refine lv_bipush (v := nI 8) hx hb dX10_matchesAt_18 (by decide) ?_
        refine g_callV (As := [.int (nI kq), .int (nI 8)]) (rest := [.int (zI (mCnt G oq qq))]) (r := (RX10, TX10, 35)) ⟨hx, hb, hml, hown, hts⟩ hE hG (cX10_bitsC l D cy base ad n A J G ((kq : Nat) : Int) 8 (by first | exact hP | exact hM.1 | exact hM.pa.1 | exact (hM.th _).1 | exact (hM.th _).pa.1) (by first | assumption | omega) (by first | assumption | omega) (by first | assumption | omega) (by first | assumption | omega)) (cwV 2 hts gX10_matchesAt_X10_bits rfl rfl rfl (by decide +kernel) ⟨Nat.le_of_ble_eq_true rfl, Nat.le_of_ble_eq_true rfl⟩) (by omega) rfl rfl rfl hl.1 rfl (Nat.le_of_ble_eq_true rfl) dX10_matchesAt_20 ⟨Nat.zero_le _, Nat.zero_le _⟩ (fun v_ A20 J20 H locs hp hG => ?_)
        obtain ⟨rfl, rfl, rfl⟩ := hp
        refine W.eq (g2 := F0 mM 23 ls [.int (zI (mBits G ((kq : Nat) : Int) 8)), .int (zI (mCnt G oq qq))]) rfl ?_
        refine lv_sipush (v := nI 184) hx hb dX10_matchesAt_23 (by decide) ?_
        refine lv_icmp_ne (tgt := 33) hx hb dX10_matchesAt_26 (by decide) (fun c26 => ?_) (fun c26 => ?_)
        · skip
          have c26 : ¬ ((mBits G ((kq : Nat) : Int) 8) = ((184 : Nat) : Int)) := fun z9 => c26 ((cmp_eq (zI_toInt (by omega) (by omega)) (nI_toInt (by omega))).mpr z9)
          refine lv_iconst (v := nI 0) hx hb dX10_matchesAt_33 (by decide) ?_
          refine lv_iadd hx hb dX10_matchesAt_34 ?_
          refine g_top (y := zI ((mCnt G oq qq) + 0)) (zI_add_in _ _) ?_
          refine g_top (y := zI (mCnt G oq (qq + 1))) (by simp only [mCnt]; rw [← hk1]; first | rw [if_pos (by omega)] | rw [if_neg (by omega)]) ?_
          refine lv_istore_n (lv' := [(2, .int (zI (mCnt G oq (qq + 1)))), (0, .ref (ad 28)), (1, .int (nI oq)), (3, .int (nI kq))]) hx hb dX10_matchesAt_35 rfl hl (by decide) rfl (fun ls hl => ?_)
          refine lv_iinc (v := nI (kq + 64)) (lv' := [(3, .int (nI (kq + 64))), (2, .int (zI (mCnt G oq (qq + 1)))), (0, .ref (ad 28)), (1, .int (nI oq))]) hx hb dX10_matchesAt_36 hl (k := 3) rfl (by rw [show (Int32.ofInt 64 : Int32) = nI 64 from rfl, nI_add]) (by decide) rfl (fun ls hl => ?_)
          refine lv_goto (tgt := 4) hx hb dX10_matchesAt_39 (by decide) ?_
          exact ihq4 (qq + 1) (kq + 64) (by omega) (by omega) (by omega) _ _ _ hG (lv_sub hl [2, 3, 1, 0] rfl)
        · skip
          have c26 : (mBits G ((kq : Nat) : Int) 8) = ((184 : Nat) : Int) := (cmp_eq (zI_toInt (by omega) (by omega)) (nI_toInt (by omega))).mp c26
          refine lv_iconst (v := nI 1) hx hb dX10_matchesAt_29 (by decide) ?_
          refine lv_goto (tgt := 34) hx hb dX10_matchesAt_30 (by decide) ?_
          refine lv_iadd hx hb dX10_matchesAt_34 ?_
          refine g_top (y := zI ((mCnt G oq qq) + 1)) (zI_add_in _ _) ?_
          refine g_top (y := zI (mCnt G oq (qq + 1))) (by simp only [mCnt]; rw [← hk1]; first | rw [if_pos (by omega)] | rw [if_neg (by omega)]) ?_
          refine lv_istore_n (lv' := [(2, .int (zI (mCnt G oq (qq + 1)))), (0, .ref (ad 28)), (1, .int (nI oq)), (3, .int (nI kq))]) hx hb dX10_matchesAt_35 rfl hl (by decide) rfl (fun ls hl => ?_)
          refine lv_iinc (v := nI (kq + 64)) (lv' := [(3, .int (nI (kq + 64))), (2, .int (zI (mCnt G oq (qq + 1)))), (0, .ref (ad 28)), (1, .int (nI oq))]) hx hb dX10_matchesAt_36 hl (k := 3) rfl (by rw [show (Int32.ofInt 64 : Int32) = nI 64 from rfl, nI_add]) (by decide) rfl (fun ls hl => ?_)
          refine lv_goto (tgt := 4) hx hb dX10_matchesAt_39 (by decide) ?_
          exact ihq4 (qq + 1) (kq + 64) (by omega) (by omega) (by omega) _ _ _ hG (lv_sub hl [2, 3, 1, 0] rfl)
  exact LLq4 _ 0 oq (by omega) (by omega) (Nat.lt_succ_self _) _ _ _ hG (lv_sub hl [2, 3, 1, 0] rfl)

abbrev PX10_matches (ad : Nat → Nat) (A : Nat → Nat → Int32) (J : Nat → Nat → Int64) (G : Nat → Nat → Int) (x : Int32) : Option Value → (Nat → Nat → Int32) → (Nat → Nat → Int64) → Prop := fun v_ A1 J1 => (∃ (jq : Nat), v_ = some (.int (zI (mMat G jq))) ∧ gu A 28 34 (nI 0) = A1 ∧ J = J1 ∧ (x = nI jq) ∧ (jq < 64)) ∨ (v_ = some (.int (nI 0)) ∧ gu A 28 34 (nI 1) = A1 ∧ J = J1 ∧ (¬ (0 ≤ x.toInt ∧ x.toInt < 64)))
set_option maxHeartbeats 4000000 in
set_option maxRecDepth 100000 in
theorem cX10_matchesC (l : Launch) (D : va_G) (cy : Nat → ClassId) (base : Nat) (ad : Nat → Nat) (n : Nat) (A : Nat → Nat → Int32) (J : Nat → Nat → Int64) (G : Nat → Nat → Int) (x : Int32) (hM : MRep A G) (hp : mPast G) (hta : 0 ≤ G 28 12 ∧ G 28 12 ≤ 8000) : gMet l yX10_matches wsX10_matches ({ frames := 2, cells := 0, slots := 0, locals := 47 } : Room) D cy base ad n A J [.ref (ad 28), .int x] (PX10_matches ad A J G x) := by
  refine g_ofW (cc := cX10_matches) (maxL := 2) (ret := (some .int)) (by decide) rfl (Nat.le_of_ble_eq_true rfl) ?_
  intro pM eM sM mM aM bM methM cM H locs ls hx hb hr hts hown hlocks hml hE hG hl
  have hl : lv_has ls 2 [(0, .ref (ad 28)), (1, .int x)] := hl
  have hinX10 : ∀ w ∈ u_ws RX10 TX10 35, w ∈ wsX10_matches := by decide +kernel
  refine lv_aload_n hx hb dX10_matches_0 rfl (lv_at hl 0 rfl) ?_
  refine lv_iload_n hx hb dX10_matches_1 rfl (lv_at hl 1 rfl) ?_
  refine lv_iconst (v := nI 0) hx hb dX10_matches_2 (by decide) ?_
  refine lv_bipush (v := nI 63) hx hb dX10_matches_3 (by decide) ?_
  refine g_callS (As := [.int x, .int (nI 0), .int (nI 63)]) (rest := [.ref (ad 28)]) ⟨hx, hb, hml, hown, hts⟩ hE hG (cX10_isInC l D cy base ad n A J x 0 63 (by first | assumption | omega) (by first | assumption | omega) (by first | assumption | omega) (by first | assumption | omega)) (va_cwS 3 hts gX10_matches_X10_isIn rfl rfl rfl (by decide +kernel) ⟨Nat.le_of_ble_eq_true rfl, Nat.le_of_ble_eq_true rfl⟩) rfl hl.1 rfl (Nat.le_of_ble_eq_true rfl) dX10_matches_5 ⟨Nat.zero_le _, Nat.zero_le _⟩ (fun v_ A5 J5 H locs hp hG => ?_)
  rcases hp with ⟨rfl, rfl, rfl, hC_5⟩ | ⟨rfl, rfl, rfl, hC_5⟩
  · refine W.eq (g2 := F0 mM 8 ls [.int (nI 1), .ref (ad 28)]) rfl ?_
    obtain ⟨jq, hjq, rfl⟩ := z_nat (x := x) (by omega)
    have hjqt : (nI jq).toInt = (jq : Int) := nI_toInt hjq
    refine lv_if_eq (tgt := 15) hx hb dX10_matches_8 (by decide) (fun c8 => ?_) (fun c8 => ?_)
    · skip
      exact absurd c8 (by decide)
    · skip
      refine lv_iconst (v := nI 0) hx hb dX10_matches_11 (by decide) ?_
      refine lv_goto (tgt := 16) hx hb dX10_matches_12 (by decide) ?_
      refine g_callV (As := [.int (nI 0)]) (rest := []) (r := (RX10, TX10, 35)) ⟨hx, hb, hml, hown, hts⟩ hE hG (cX10_canC l D cy base ad n A J 0 (by first | assumption | omega)) (cwV 1 hts gX10_matches_X10_can rfl rfl rfl (by decide +kernel) ⟨Nat.le_of_ble_eq_true rfl, Nat.le_of_ble_eq_true rfl⟩) (by omega) rfl rfl rfl hl.1 rfl (Nat.le_of_ble_eq_true rfl) dX10_matches_16 ⟨Nat.zero_le _, Nat.zero_le _⟩ (fun v_ A16 J16 H locs hp hG => ?_)
      rcases hp with ⟨rfl, rfl, rfl, hC_16⟩ | ⟨rfl, rfl, rfl, hC_16⟩
      · refine W.eq (g2 := F0 mM 19 ls [.int (nI 1)]) rfl ?_
        refine lv_if_eq (tgt := 30) hx hb dX10_matches_19 (by decide) (fun c19 => ?_) (fun c19 => ?_)
        · skip
          exact absurd c19 (by decide)
        · skip
          refine lv_aload_n hx hb dX10_matches_22 rfl (lv_at hl 0 rfl) ?_
          refine lv_iload_n hx hb dX10_matches_23 rfl (lv_at hl 1 rfl) ?_
          refine g_callV (As := [.int (nI jq)]) (rest := []) (r := (RX10, TX10, 35)) ⟨hx, hb, hml, hown, hts⟩ hE hG (cX10_matchesAtC l D cy base ad n (gu A 28 34 (nI 0)) J G jq (hM.th _).pa hp hta (by first | assumption | omega)) (cwV 1 hts gX10_matches_X10_matchesAt rfl rfl rfl (by decide +kernel) ⟨Nat.le_of_ble_eq_true rfl, Nat.le_of_ble_eq_true rfl⟩) (by omega) rfl rfl rfl hl.1 rfl (Nat.le_of_ble_eq_true rfl) dX10_matches_24 ⟨Nat.zero_le _, Nat.zero_le _⟩ (fun v_ A24 J24 H locs hp hG => ?_)
          obtain ⟨rfl, rfl, rfl⟩ := hp
          refine W.eq (g2 := F0 mM 27 ls [.int (zI (mMat G jq))]) rfl ?_
          refine lv_goto (tgt := 31) hx hb dX10_matches_27 (by decide) ?_
          exact g_iret hx hb hr hlocks hG (by first | exact Or.inl ⟨_, rfl, rfl, rfl, (by first | omega | rfl | assumption), (by first | omega | rfl | assumption)⟩ | exact Or.inr (⟨rfl, rfl, rfl, (by first | omega | rfl | assumption)⟩)) dX10_matches_31
      · exact absurd hC_16 (by decide)
  · refine W.eq (g2 := F0 mM 8 ls [.int (nI 0), .ref (ad 28)]) rfl ?_
    refine lv_if_eq (tgt := 15) hx hb dX10_matches_8 (by decide) (fun c8 => ?_) (fun c8 => ?_)
    · skip
      refine lv_iconst (v := nI 1) hx hb dX10_matches_15 (by decide) ?_
      refine g_callV (As := [.int (nI 1)]) (rest := []) (r := (RX10, TX10, 35)) ⟨hx, hb, hml, hown, hts⟩ hE hG (cX10_canC l D cy base ad n A J 1 (by first | assumption | omega)) (cwV 1 hts gX10_matches_X10_can rfl rfl rfl (by decide +kernel) ⟨Nat.le_of_ble_eq_true rfl, Nat.le_of_ble_eq_true rfl⟩) (by omega) rfl rfl rfl hl.1 rfl (Nat.le_of_ble_eq_true rfl) dX10_matches_16 ⟨Nat.zero_le _, Nat.zero_le _⟩ (fun v_ A16 J16 H locs hp hG => ?_)
      rcases hp with ⟨rfl, rfl, rfl, hC_16⟩ | ⟨rfl, rfl, rfl, hC_16⟩
      · exact absurd hC_16 (by decide)
      · refine W.eq (g2 := F0 mM 19 ls [.int (nI 0)]) rfl ?_
        refine lv_if_eq (tgt := 30) hx hb dX10_matches_19 (by decide) (fun c19 => ?_) (fun c19 => ?_)
        · skip
          refine lv_iconst (v := nI 0) hx hb dX10_matches_30 (by decide) ?_
          exact g_iret hx hb hr hlocks hG (by first | exact Or.inl ⟨_, rfl, rfl, rfl, (by first | omega | rfl | assumption), (by first | omega | rfl | assumption)⟩ | exact Or.inr (⟨rfl, rfl, rfl, (by first | omega | rfl | assumption)⟩)) dX10_matches_31
        · skip
          exact absurd c19 (by decide)
    · skip
      exact absurd c8 (by decide)

abbrev PX10_bestOffset (ad : Nat → Nat) (A : Nat → Nat → Int32) (J : Nat → Nat → Int64) (G : Nat → Nat → Int) : Option Value → (Nat → Nat → Int32) → (Nat → Nat → Int64) → Prop := fun v_ A1 J1 => (v_ = some (.int (nI (mBest (mMat G) 63))) ∧ gu A 28 34 (nI 0) = A1 ∧ J = J1)
set_option maxHeartbeats 4000000 in
set_option maxRecDepth 100000 in
theorem cX10_bestOffsetC (l : Launch) (D : va_G) (cy : Nat → ClassId) (base : Nat) (ad : Nat → Nat) (n : Nat) (A : Nat → Nat → Int32) (J : Nat → Nat → Int64) (G : Nat → Nat → Int) (hM : MRep A G) (hp : mPast G) (hta : 0 ≤ G 28 12 ∧ G 28 12 ≤ 8000) : gMet l yX10_bestOffset wsX10_bestOffset ({ frames := 2, cells := 0, slots := 0, locals := 47 } : Room) D cy base ad n A J [.ref (ad 28)] (PX10_bestOffset ad A J G) := by
  refine g_ofW (cc := cX10_bestOffset) (maxL := 3) (ret := (some .int)) (by decide) rfl (Nat.le_of_ble_eq_true rfl) ?_
  intro pM eM sM mM aM bM methM cM H locs ls hx hb hr hts hown hlocks hml hE hG hl
  have hl : lv_has ls 3 [(0, .ref (ad 28))] := hl
  have hinX10 : ∀ w ∈ u_ws RX10 TX10 35, w ∈ wsX10_bestOffset := by decide +kernel
  refine lv_aload_n hx hb dX10_bestOffset_0 rfl (lv_at hl 0 rfl) ?_
  refine lv_iconst (v := nI 0) hx hb dX10_bestOffset_1 (by decide) ?_
  refine g_puti (C := RX10) (T := TX10) (NN := 35) (ci := 10) hx hb hts hinX10 tyX10 tyX10_ok nmX10 hown hE hG (k := 28) (by omega) rfl rfl 34 (by decide) (hts (.fieldLink RX10 78 "CommutatorModel" "thrown" "I") (List.mem_of_getElem? (i := 1) rfl)) rfl rfl (ty := .int) (v := nI 0) (by decide +kernel) rfl rfl (Nat.le_of_ble_eq_true rfl) rfl dX10_bestOffset_2 (fun H locs hG => ?_)
  refine lv_iconst (v := nI 0) hx hb dX10_bestOffset_5 (by decide) ?_
  refine lv_istore_n (lv' := [(1, .int (nI 0)), (0, .ref (ad 28))]) hx hb dX10_bestOffset_6 rfl hl (by decide) rfl (fun ls hl => ?_)
  refine lv_iconst (v := nI 1) hx hb dX10_bestOffset_7 (by decide) ?_
  refine lv_istore_n (lv' := [(2, .int (nI 1)), (1, .int (nI 0)), (0, .ref (ad 28))]) hx hb dX10_bestOffset_8 rfl hl (by decide) rfl (fun ls hl => ?_)
  have LLq9 : ∀ (fuel : Nat) (kq : Nat) (hk : kq < 64) (_ : 64 - kq < fuel) (H : Heap) (locs : List Loc) (ls : Array Slot), gH D base sM ad (50 + 2 * n) (gw cy ad n (gu A 28 34 (nI 0)) J) H locs → lv_has ls 3 [(0, .ref (ad 28)), (1, .int (nI (mBest (mMat G) kq))), (2, .int (nI (kq + 1)))] → W pM l eM ({ frames := 2, cells := 0, slots := 0, locals := 47 } : Room) sM mM aM bM methM cM H locs 0 0 (MQ bM (gPost D cy base ad n (PX10_bestOffset ad A J G)) aM sM 0 0 (fun q => base ≤ q)) (F0 mM 9 ls []) := by
    intro fuel
    induction fuel with
    | zero => intro kq hk hms H locs ls hG hl; exact absurd hms (Nat.not_lt_zero _)
    | succ fuel ihq9 =>
      intro kq hk hms H locs ls hG hl
      refine lv_iload_n hx hb dX10_bestOffset_9 rfl (lv_at hl 2 rfl) ?_
      refine lv_bipush (v := nI 64) hx hb dX10_bestOffset_10 (by decide) ?_
      refine lv_icmp_ge (tgt := 40) hx hb dX10_bestOffset_12 (by decide) (fun c12 => ?_) (fun c12 => ?_)
      · skip
        have c12 : 64 ≤ (kq + 1) := (nI_leI (by omega) (by omega)).mp c12
        have hk9 : kq = 63 := by omega
        subst hk9
        refine lv_iload_n hx hb dX10_bestOffset_40 rfl (lv_at hl 1 rfl) ?_
        exact g_iret hx hb hr hlocks hG ⟨rfl, rfl, rfl⟩ dX10_bestOffset_41
      · skip
        have c12 : ¬ (64 ≤ (kq + 1)) := fun z9 => c12 ((nI_leI (by omega) (by omega)).mpr z9)
        have hbl := mBest_le (mMat G) kq
        have hm1 := mMat_range hta (kq + 1)
        have hm2 := mMat_range hta (mBest (mMat G) kq)
        refine lv_aload_n hx hb dX10_bestOffset_15 rfl (lv_at hl 0 rfl) ?_
        refine lv_iload_n hx hb dX10_bestOffset_16 rfl (lv_at hl 2 rfl) ?_
        refine g_callV (As := [.int (nI (kq + 1))]) (rest := []) (r := (RX10, TX10, 35)) ⟨hx, hb, hml, hown, hts⟩ hE hG (cX10_matchesAtC l D cy base ad n (gu A 28 34 (nI 0)) J G (kq + 1) (hM.th _).pa hp hta (by first | assumption | omega)) (cwV 1 hts gX10_bestOffset_X10_matchesAt rfl rfl rfl (by decide +kernel) ⟨Nat.le_of_ble_eq_true rfl, Nat.le_of_ble_eq_true rfl⟩) (by omega) rfl rfl rfl hl.1 rfl (Nat.le_of_ble_eq_true rfl) dX10_bestOffset_17 ⟨Nat.zero_le _, Nat.zero_le _⟩ (fun v_ A17 J17 H locs hp hG => ?_)
        obtain ⟨rfl, rfl, rfl⟩ := hp
        refine W.eq (g2 := F0 mM 20 ls [.int (zI (mMat G (kq + 1)))]) rfl ?_
        refine lv_aload_n hx hb dX10_bestOffset_20 rfl (lv_at hl 0 rfl) ?_
        refine lv_iload_n hx hb dX10_bestOffset_21 rfl (lv_at hl 1 rfl) ?_
        refine g_callV (As := [.int (nI (mBest (mMat G) kq))]) (rest := [.int (zI (mMat G (kq + 1)))]) (r := (RX10, TX10, 35)) ⟨hx, hb, hml, hown, hts⟩ hE hG (cX10_matchesAtC l D cy base ad n (gu A 28 34 (nI 0)) J G (mBest (mMat G) kq) (hM.th _).pa hp hta (by first | assumption | omega)) (cwV 1 hts gX10_bestOffset_X10_matchesAt rfl rfl rfl (by decide +kernel) ⟨Nat.le_of_ble_eq_true rfl, Nat.le_of_ble_eq_true rfl⟩) (by omega) rfl rfl rfl hl.1 rfl (Nat.le_of_ble_eq_true rfl) dX10_bestOffset_22 ⟨Nat.zero_le _, Nat.zero_le _⟩ (fun v_ A22 J22 H locs hp hG => ?_)
        obtain ⟨rfl, rfl, rfl⟩ := hp
        refine W.eq (g2 := F0 mM 25 ls [.int (zI (mMat G (mBest (mMat G) kq))), .int (zI (mMat G (kq + 1)))]) rfl ?_
        refine lv_icmp_le (tgt := 32) hx hb dX10_bestOffset_25 (by decide) (fun c25 => ?_) (fun c25 => ?_)
        · skip
          have c25 : (mMat G (kq + 1)) ≤ (mMat G (mBest (mMat G) kq)) := (cmp_le (zI_toInt (by omega) (by omega)) (zI_toInt (by omega) (by omega))).mp c25
          refine lv_iload_n hx hb dX10_bestOffset_32 rfl (lv_at hl 1 rfl) ?_
          refine g_top (y := nI (mBest (mMat G) (kq + 1))) (by simp only [mBest]; first | rw [if_pos (by omega)] | rw [if_neg (by omega)]) ?_
          refine lv_istore_n (lv' := [(1, .int (nI (mBest (mMat G) (kq + 1)))), (0, .ref (ad 28)), (2, .int (nI (kq + 1)))]) hx hb dX10_bestOffset_33 rfl hl (by decide) rfl (fun ls hl => ?_)
          refine lv_iinc (v := nI (kq + 1 + 1)) (lv' := [(2, .int (nI (kq + 1 + 1))), (1, .int (nI (mBest (mMat G) (kq + 1)))), (0, .ref (ad 28))]) hx hb dX10_bestOffset_34 hl (k := 2) rfl (by rw [show (Int32.ofInt 1 : Int32) = nI 1 from rfl, nI_add]) (by decide) rfl (fun ls hl => ?_)
          refine lv_goto (tgt := 9) hx hb dX10_bestOffset_37 (by decide) ?_
          exact ihq9 (kq + 1) (by omega) (by omega) _ _ _ hG (lv_sub hl [2, 1, 0] rfl)
        · skip
          have c25 : ¬ ((mMat G (kq + 1)) ≤ (mMat G (mBest (mMat G) kq))) := fun z9 => c25 ((cmp_le (zI_toInt (by omega) (by omega)) (zI_toInt (by omega) (by omega))).mpr z9)
          refine lv_iload_n hx hb dX10_bestOffset_28 rfl (lv_at hl 2 rfl) ?_
          refine lv_goto (tgt := 33) hx hb dX10_bestOffset_29 (by decide) ?_
          refine g_top (y := nI (mBest (mMat G) (kq + 1))) (by simp only [mBest]; first | rw [if_pos (by omega)] | rw [if_neg (by omega)]) ?_
          refine lv_istore_n (lv' := [(1, .int (nI (mBest (mMat G) (kq + 1)))), (0, .ref (ad 28)), (2, .int (nI (kq + 1)))]) hx hb dX10_bestOffset_33 rfl hl (by decide) rfl (fun ls hl => ?_)
          refine lv_iinc (v := nI (kq + 1 + 1)) (lv' := [(2, .int (nI (kq + 1 + 1))), (1, .int (nI (mBest (mMat G) (kq + 1)))), (0, .ref (ad 28))]) hx hb dX10_bestOffset_34 hl (k := 2) rfl (by rw [show (Int32.ofInt 1 : Int32) = nI 1 from rfl, nI_add]) (by decide) rfl (fun ls hl => ?_)
          refine lv_goto (tgt := 9) hx hb dX10_bestOffset_37 (by decide) ?_
          exact ihq9 (kq + 1) (by omega) (by omega) _ _ _ hG (lv_sub hl [2, 1, 0] rfl)
  exact LLq9 _ 0 (by omega) (Nat.lt_succ_self _) _ _ _ hG (lv_sub hl [2, 1, 0] rfl)

abbrev PX10_drop (ad : Nat → Nat) (A : Nat → Nat → Int32) (J : Nat → Nat → Int64) (G : Nat → Nat → Int) (ixq cnq : Nat) : Option Value → (Nat → Nat → Int32) → (Nat → Nat → Int64) → Prop := fun v_ A1 J1 => (v_ = none ∧ J = J1 ∧ (MRep A1 (mDrop G ixq cnq (G 28 10 - (cnq : Int)).toNat)) ∧ (MOnly A A1) ∧ (A1 28 34 = A 28 34))
set_option maxHeartbeats 4000000 in
set_option maxRecDepth 100000 in
theorem cX10_dropC (l : Launch) (D : va_G) (cy : Nat → ClassId) (base : Nat) (ad : Nat → Nat) (n : Nat) (A : Nat → Nat → Int32) (J : Nat → Nat → Int64) (G : Nat → Nat → Int) (ixq cnq : Nat) (hM : MRep A G) (hol : G 28 10 ≤ 8000) (hic : ((ixq + cnq : Nat) : Int) ≤ G 28 10) : gMet l yX10_drop wsX10_drop ({ frames := 0, cells := 0, slots := 0, locals := 0 } : Room) D cy base ad n A J [.ref (ad 28), .int (nI ixq), .int (nI cnq)] (PX10_drop ad A J G ixq cnq) := by
  refine g_ofW (cc := cX10_drop) (maxL := 4) (ret := none) (by decide) rfl (Nat.le_of_ble_eq_true rfl) ?_
  intro pM eM sM mM aM bM methM cM H locs ls hx hb hr hts hown hlocks hml hE hG hl
  have hl : lv_has ls 4 [(0, .ref (ad 28)), (1, .int (nI ixq)), (2, .int (nI cnq))] := hl
  have hinX10 : ∀ w ∈ u_ws RX10 TX10 35, w ∈ wsX10_drop := by decide +kernel
  refine lv_aload_n hx hb dX10_drop_0 rfl (lv_at hl 0 rfl) ?_
  refine lv_dup hx hb dX10_drop_1 rfl ?_
  refine g_get (C := RX10) (T := TX10) (NN := 35) (ci := 10) hx hb hts hinX10 hown hE hG (k := 28) (by omega) rfl rfl 10 (by decide) (hts (.fieldLink RX10 117 "CommutatorModel" "onLine" "I") (List.mem_of_getElem? (i := 1) rfl)) rfl (v := .int (A 28 10)) rfl dX10_drop_2 ?_
  refine g_top (y := zI (G 28 10)) (hM 28 10 (by omega) (by omega) (by omega)) ?_
  refine lv_iload_n hx hb dX10_drop_5 rfl (lv_at hl 2 rfl) ?_
  refine lv_isub hx hb dX10_drop_6 ?_
  refine g_top (y := zI ((G 28 10) - ((cnq : Nat) : Int))) (zI_sub_in _ _) ?_
  refine g_puti (C := RX10) (T := TX10) (NN := 35) (ci := 10) hx hb hts hinX10 tyX10 tyX10_ok nmX10 hown hE hG (k := 28) (by omega) rfl rfl 10 (by decide) (hts (.fieldLink RX10 117 "CommutatorModel" "onLine" "I") (List.mem_of_getElem? (i := 1) rfl)) rfl rfl (ty := .int) (v := zI ((G 28 10) - ((cnq : Nat) : Int))) (by decide +kernel) rfl rfl (Nat.le_of_ble_eq_true rfl) rfl dX10_drop_7 (fun H locs hG => ?_)
  refine lv_iload_n hx hb dX10_drop_10 rfl (lv_at hl 1 rfl) ?_
  refine lv_istore_n (lv' := [(3, .int (nI ixq)), (0, .ref (ad 28)), (1, .int (nI ixq)), (2, .int (nI cnq))]) hx hb dX10_drop_11 rfl hl (by decide) rfl (fun ls hl => ?_)
  have LLq12 : ∀ (fuel : Nat) (kq : Nat) (Aq : Nat → Nat → Int32) (hk1 : ixq ≤ kq) (hk2 : (kq : Int) ≤ G 28 10 - (cnq : Int)) (hR : MRep Aq (mDrop G ixq cnq kq)) (hO : MOnly A Aq) (hth : Aq 28 34 = A 28 34) (_ : (G 28 10 - (cnq : Int) - kq).toNat < fuel) (H : Heap) (locs : List Loc) (ls : Array Slot), gH D base sM ad (50 + 2 * n) (gw cy ad n Aq J) H locs → lv_has ls 4 [(0, .ref (ad 28)), (1, .int (nI ixq)), (2, .int (nI cnq)), (3, .int (nI kq))] → W pM l eM ({ frames := 0, cells := 0, slots := 0, locals := 0 } : Room) sM mM aM bM methM cM H locs 0 0 (MQ bM (gPost D cy base ad n (PX10_drop ad A J G ixq cnq)) aM sM 0 0 (fun q => base ≤ q)) (F0 mM 12 ls []) := by
    intro fuel
    induction fuel with
    | zero => intro kq Aq hk1 hk2 hR hO hth hms H locs ls hG hl; exact absurd hms (Nat.not_lt_zero _)
    | succ fuel ihq12 =>
      intro kq Aq hk1 hk2 hR hO hth hms H locs ls hG hl
      refine lv_iload_n hx hb dX10_drop_12 rfl (lv_at hl 3 rfl) ?_
      refine lv_aload_n hx hb dX10_drop_13 rfl (lv_at hl 0 rfl) ?_
      refine g_get (C := RX10) (T := TX10) (NN := 35) (ci := 10) hx hb hts hinX10 hown hE hG (k := 28) (by omega) rfl rfl 10 (by decide) (hts (.fieldLink RX10 117 "CommutatorModel" "onLine" "I") (List.mem_of_getElem? (i := 1) rfl)) rfl (v := .int (Aq 28 10)) rfl dX10_drop_14 ?_
      refine g_top (y := zI (G 28 10 - ((cnq : Nat) : Int))) ((hR 28 10 (by omega) (by omega) (by omega)).trans (by simp [mDrop, gr_at, gu_at])) ?_
      refine lv_icmp_ge (tgt := 40) hx hb dX10_drop_17 (by decide) (fun c17 => ?_) (fun c17 => ?_)
      · skip
        have c17 : (G 28 10 - ((cnq : Nat) : Int)) ≤ ((kq : Nat) : Int) := (cmp_le (zI_toInt (by omega) (by omega)) (nI_toInt (by omega))).mp c17
        have hk9 : kq = (G 28 10 - (cnq : Int)).toNat := by omega
        subst hk9
        exact g_vret hx hb hr hlocks hG ⟨rfl, rfl, hR, hO, hth⟩ dX10_drop_40
      · skip
        have c17 : ¬ ((G 28 10 - ((cnq : Nat) : Int)) ≤ ((kq : Nat) : Int)) := fun z9 => c17 ((cmp_le (zI_toInt (by omega) (by omega)) (nI_toInt (by omega))).mpr z9)
        refine lv_aload_n hx hb dX10_drop_20 rfl (lv_at hl 0 rfl) ?_
        refine g_get (C := RX10) (T := TX10) (NN := 35) (ci := 10) hx hb hts hinX10 hown hE hG (k := 28) (by omega) rfl rfl 11 (by decide) (hts (.fieldLink RX10 34 "CommutatorModel" "line" "[I") (List.mem_of_getElem? (i := 2) rfl)) rfl (v := .ref (ad 37)) rfl dX10_drop_21 ?_
        refine lv_iload_n hx hb dX10_drop_24 rfl (lv_at hl 3 rfl) ?_
        refine lv_aload_n hx hb dX10_drop_25 rfl (lv_at hl 0 rfl) ?_
        refine g_get (C := RX10) (T := TX10) (NN := 35) (ci := 10) hx hb hts hinX10 hown hE hG (k := 28) (by omega) rfl rfl 11 (by decide) (hts (.fieldLink RX10 34 "CommutatorModel" "line" "[I") (List.mem_of_getElem? (i := 2) rfl)) rfl (v := .ref (ad 37)) rfl dX10_drop_26 ?_
        refine lv_iload_n hx hb dX10_drop_29 rfl (lv_at hl 3 rfl) ?_
        refine lv_iload_n hx hb dX10_drop_30 rfl (lv_at hl 2 rfl) ?_
        refine lv_iadd hx hb dX10_drop_31 ?_
        refine g_top (y := nI (kq + cnq)) (by rw [nI_add]) ?_
        refine g_iald hx hb hE hG (k := 37) (by omega) rfl (kq + cnq) (rfl) (by omega) (by omega) dX10_drop_32 ?_
        refine g_top (y := zI (G 37 (kq + cnq))) ((hR 37 _ (by omega) (by omega) (by omega)).trans (by simp only [mDrop, gr_at, ↓reduceIte]; rw [if_neg (by omega)])) ?_
        refine g_iast hx hb hE hG (k := 37) (by omega) (fun _ => rfl) kq (rfl) (by omega) (by omega) dX10_drop_33 (fun H locs hG => ?_)
        refine lv_iinc (v := nI (kq + 1)) (lv' := [(3, .int (nI (kq + 1))), (0, .ref (ad 28)), (1, .int (nI ixq)), (2, .int (nI cnq))]) hx hb dX10_drop_34 hl (k := 3) rfl (by rw [show (Int32.ofInt 1 : Int32) = nI 1 from rfl, nI_add]) (by decide) rfl (fun ls hl => ?_)
        refine lv_goto (tgt := 12) hx hb dX10_drop_37 (by decide) ?_
        exact ihq12 (kq + 1) (gu Aq 37 kq (zI (G 37 (kq + cnq)))) (by omega) (by omega) ((hR.up 37 kq _).to (fun k9 j9 _ _ => by simp only [mDrop, gr_at, gu_at]; (repeat' split) <;> first | rfl | omega | (simp_all; done) | (simp_all; omega))) (hO.up _ _ (by decide) (by decide)) hth (by omega) _ _ _ hG (lv_sub hl [1, 2, 3, 0] rfl)
  exact LLq12 _ ixq (gu A 28 10 (zI ((G 28 10) - ((cnq : Nat) : Int)))) (by omega) (by omega) ((hM.up 28 10 _).to (fun k9 j9 _ _ => by simp only [mDrop, gr_at]; split <;> (try subst_vars) <;> simp only [gu_at] <;> (repeat' split) <;> first | rfl | omega)) (MOnly.rf.up _ _ (by decide) (by decide)) rfl (Nat.lt_succ_self _) _ _ _ hG (lv_sub hl [1, 2, 3, 0] rfl)
