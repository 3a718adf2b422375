abbrev PX3_remove (ad : Nat → Nat) (A : Nat → Nat → Int32) (J : Nat → Nat → Int64) (h e : Nat) (ixq cnq : Nat) : Option Value → (Nat → Nat → Int32) → (Nat → Nat → Int64) → Prop := fun v_ A1 J1 => (v_ = none ∧ gu (gr A 5 (va_cpy (A 5) (A 5) (h + ixq + cnq) (h + ixq) (e - (h + ixq + cnq)))) 4 2 (nI (e - cnq)) = A1 ∧ J = J1)
set_option maxHeartbeats 4000000 in
set_option maxRecDepth 100000 in
theorem cX3_removeC (l : Launch) (D : va_G) (cy : Nat → ClassId) (base : Nat) (ad : Nat → Nat) (n : Nat) (A : Nat → Nat → Int32) (J : Nat → Nat → Int64) (h e : Nat) (ixq cnq : Nat) (hh : A 4 1 = nI h) (he : A 4 2 = nI e) (hle : h ≤ e) (he8 : e ≤ 8000) (hcn : 1 ≤ cnq ∧ ixq + cnq ≤ e - h) : gMet l yX3_remove wsX3_remove ({ frames := 2, cells := 0, slots := 0, locals := 60 } : Room) D cy base ad n A J [.ref (ad 4), .int (nI ixq), .int (nI cnq)] (PX3_remove ad A J h e ixq cnq) := by
  refine g_ofW (cc := cX3_remove) (maxL := 4) (ret := none) (by decide) rfl (Nat.le_of_ble_eq_true rfl) ?_
  intro pM eM sM mM aM bM methM cM H locs ls hx hb hr hts hown hlocks hml hE hG hl
  have hl : lv_has ls 4 [(0, .ref (ad 4)), (1, .int (nI ixq)), (2, .int (nI cnq))] := hl
  have hinX3 : ∀ w ∈ u_ws RX3 TX3 3, w ∈ wsX3_remove := by decide +kernel
  refine lv_iload_n hx hb dX3_remove_0 rfl (lv_at hl 2 rfl) ?_
  refine lv_iconst (v := nI 1) hx hb dX3_remove_1 (by decide) ?_
  refine lv_icmp_lt (tgt := 14) hx hb dX3_remove_2 (by decide) (fun c2 => ?_) (fun c2 => ?_)
  · skip
    have c2 : cnq < 1 := (nI_ltI (by omega) (by omega)).mp c2
    exfalso; omega
  · skip
    have c2 : ¬ (cnq < 1) := fun z9 => c2 ((nI_ltI (by omega) (by omega)).mpr z9)
    refine lv_aload_n hx hb dX3_remove_5 rfl (lv_at hl 0 rfl) ?_
    refine lv_iload_n hx hb dX3_remove_6 rfl (lv_at hl 1 rfl) ?_
    refine lv_iload_n hx hb dX3_remove_7 rfl (lv_at hl 2 rfl) ?_
    refine g_callV (As := [.int (nI ixq), .int (nI cnq)]) (rest := []) (r := (RX3, TX3, 3)) ⟨hx, hb, hml, hown, hts⟩ hE hG (cX3_holdsC l D cy base ad n A J _ _ (nI ixq) (nI cnq) (by first | assumption | omega) (by first | assumption | omega) (by first | assumption | omega) (by first | assumption | omega)) (cwV 2 hts gX3_remove_X3_holds rfl rfl rfl (by decide +kernel) ⟨Nat.le_of_ble_eq_true rfl, Nat.le_of_ble_eq_true rfl⟩) (by omega) rfl rfl rfl hl.1 rfl (Nat.le_of_ble_eq_true rfl) dX3_remove_8 ⟨Nat.zero_le _, Nat.zero_le _⟩ (fun v_ A8 J8 H locs hp hG => ?_)
    rcases hp with ⟨rfl, rfl, rfl, hC_8⟩ | ⟨rfl, rfl, rfl, hC_8⟩
    · refine W.eq (g2 := F0 mM 11 ls [.int (nI 1)]) rfl ?_
      refine lv_if_ne (tgt := 15) hx hb dX3_remove_11 (by decide) (fun c11 => ?_) (fun c11 => ?_)
      · skip
        refine lv_aload_n hx hb dX3_remove_15 rfl (lv_at hl 0 rfl) ?_
        refine g_get (C := RX3) (T := TX3) (NN := 3) (ci := 3) hx hb hts hinX3 hown hE hG (k := 4) (by omega) rfl rfl 1 (by decide) (hts (.fieldLink RX3 19 "Commutator$Line" "head" "I") (List.mem_of_getElem? (i := 1) rfl)) rfl (v := .int (A 4 1)) rfl dX3_remove_16 ?_
        refine g_top (y := nI h) (hh) ?_
        refine lv_iload_n hx hb dX3_remove_19 rfl (lv_at hl 1 rfl) ?_
        refine lv_iadd hx hb dX3_remove_20 ?_
        refine g_top (y := nI (h + ixq)) (by rw [nI_add]) ?_
        refine lv_iload_n hx hb dX3_remove_21 rfl (lv_at hl 2 rfl) ?_
        refine lv_iadd hx hb dX3_remove_22 ?_
        refine g_top (y := nI (h + ixq + cnq)) (by rw [nI_add]) ?_
        refine lv_istore_n (lv' := [(3, .int (nI (h + ixq + cnq))), (0, .ref (ad 4)), (1, .int (nI ixq)), (2, .int (nI cnq))]) hx hb dX3_remove_23 rfl hl (by decide) rfl (fun ls hl => ?_)
        refine lv_aload_n hx hb dX3_remove_24 rfl (lv_at hl 1 rfl) ?_
        refine g_get (C := RX3) (T := TX3) (NN := 3) (ci := 3) hx hb hts hinX3 hown hE hG (k := 4) (by omega) rfl rfl 0 (by decide) (hts (.fieldLink RX3 9 "Commutator$Line" "bits" "[I") (List.mem_of_getElem? (i := 2) rfl)) rfl (v := .ref (ad 5)) rfl dX3_remove_25 ?_
        refine lv_iload_n hx hb dX3_remove_28 rfl (lv_at hl 0 rfl) ?_
        refine lv_aload_n hx hb dX3_remove_29 rfl (lv_at hl 1 rfl) ?_
        refine g_get (C := RX3) (T := TX3) (NN := 3) (ci := 3) hx hb hts hinX3 hown hE hG (k := 4) (by omega) rfl rfl 0 (by decide) (hts (.fieldLink RX3 9 "Commutator$Line" "bits" "[I") (List.mem_of_getElem? (i := 2) rfl)) rfl (v := .ref (ad 5)) rfl dX3_remove_30 ?_
        refine lv_aload_n hx hb dX3_remove_33 rfl (lv_at hl 1 rfl) ?_
        refine g_get (C := RX3) (T := TX3) (NN := 3) (ci := 3) hx hb hts hinX3 hown hE hG (k := 4) (by omega) rfl rfl 1 (by decide) (hts (.fieldLink RX3 19 "Commutator$Line" "head" "I") (List.mem_of_getElem? (i := 1) rfl)) rfl (v := .int (A 4 1)) rfl dX3_remove_34 ?_
        refine g_top (y := nI h) (hh) ?_
        refine lv_iload_n hx hb dX3_remove_37 rfl (lv_at hl 2 rfl) ?_
        refine lv_iadd hx hb dX3_remove_38 ?_
        refine g_top (y := nI (h + ixq)) (by rw [nI_add]) ?_
        refine lv_aload_n hx hb dX3_remove_39 rfl (lv_at hl 1 rfl) ?_
        refine g_get (C := RX3) (T := TX3) (NN := 3) (ci := 3) hx hb hts hinX3 hown hE hG (k := 4) (by omega) rfl rfl 2 (by decide) (hts (.fieldLink RX3 15 "Commutator$Line" "end" "I") (List.mem_of_getElem? (i := 3) rfl)) rfl (v := .int (A 4 2)) rfl dX3_remove_40 ?_
        refine g_top (y := nI e) (he) ?_
        refine lv_iload_n hx hb dX3_remove_43 rfl (lv_at hl 0 rfl) ?_
        refine lv_isub hx hb dX3_remove_44 ?_
        refine g_top (y := nI (e - (h + ixq + cnq))) (pk_sub (by omega)) ?_
        refine g_copy hx hb (hml.trans hl.1.symm) hown (hts (.methodLink RX3 30 arraycopyName) (List.mem_of_getElem? (i := 4) rfl)) (hts (.native arraycopyName) (List.mem_of_getElem? (i := 5) rfl)) (hts (.static arraycopyName) (List.mem_of_getElem? (i := 6) rfl)) (hts (.initialized "java/lang/System") (List.mem_of_getElem? (i := 7) rfl)) hE hG (k := 5) (by omega) (fun _ => rfl) (sp := (h + ixq + cnq)) (dp := (h + ixq)) (cn := (e - (h + ixq + cnq))) (by omega) (by omega) (by omega) (Nat.le_of_ble_eq_true rfl) (Nat.le_of_ble_eq_true rfl) dX3_remove_45 (fun H locs hG => ?_)
        refine lv_aload_n hx hb dX3_remove_48 rfl (lv_at hl 1 rfl) ?_
        refine lv_dup hx hb dX3_remove_49 rfl ?_
        refine g_get (C := RX3) (T := TX3) (NN := 3) (ci := 3) hx hb hts hinX3 hown hE hG (k := 4) (by omega) rfl rfl 2 (by decide) (hts (.fieldLink RX3 15 "Commutator$Line" "end" "I") (List.mem_of_getElem? (i := 3) rfl)) rfl (v := .int (A 4 2)) rfl dX3_remove_50 ?_
        refine g_top (y := nI e) (he) ?_
        refine lv_iload_n hx hb dX3_remove_53 rfl (lv_at hl 3 rfl) ?_
        refine lv_isub hx hb dX3_remove_54 ?_
        refine g_top (y := nI (e - cnq)) (pk_sub (by omega)) ?_
        refine g_puti (C := RX3) (T := TX3) (NN := 3) (ci := 3) hx hb hts hinX3 tyX3 tyX3_ok nmX3 hown hE hG (k := 4) (by omega) rfl rfl 2 (by decide) (hts (.fieldLink RX3 15 "Commutator$Line" "end" "I") (List.mem_of_getElem? (i := 3) rfl)) rfl rfl (ty := .int) (v := nI (e - cnq)) (by decide +kernel) rfl rfl (Nat.le_of_ble_eq_true rfl) rfl dX3_remove_55 (fun H locs hG => ?_)
        exact g_vret hx hb hr hlocks hG ⟨rfl, rfl, rfl⟩ dX3_remove_58
      · skip
        exact absurd c11 (by decide)
    · refine W.eq (g2 := F0 mM 11 ls [.int (nI 0)]) rfl ?_
      exfalso; apply hC_8; simp only [nI_toInt (show ixq < 2 ^ 31 by omega), nI_toInt (show cnq < 2 ^ 31 by omega)]; omega
