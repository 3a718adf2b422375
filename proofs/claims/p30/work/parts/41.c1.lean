abbrev PX6_set (ad : Nat → Nat) (A : Nat → Nat → Int32) (J : Nat → Nat → Int64) (kq : Nat) (aq mq : Int32) : Option Value → (Nat → Nat → Int32) → (Nat → Nat → Int64) → Prop := fun v_ A1 J1 => (v_ = none ∧ gu (gu (gu A kq 0 (nI 1)) kq 1 aq) kq 2 mq = A1 ∧ J = J1)
set_option maxHeartbeats 4000000 in
set_option maxRecDepth 100000 in
theorem cX6_setC (l : Launch) (D : va_G) (cy : Nat → ClassId) (base : Nat) (ad : Nat → Nat) (n : Nat) (A : Nat → Nat → Int32) (J : Nat → Nat → Int64) (kq : Nat) (aq mq : Int32) (hk : gIsR n kq) : gMet l yX6_set wsX6_set ({ frames := 0, cells := 0, slots := 0, locals := 0 } : Room) D cy base ad n A J [.ref (ad kq), .int aq, .int mq] (PX6_set ad A J kq aq mq) := by
  refine g_ofW (cc := cX6_set) (maxL := 3) (ret := none) (by decide) rfl (Nat.le_of_ble_eq_true rfl) ?_
  intro pM eM sM mM aM bM methM cM H locs ls hx hb hr hts hown hlocks hml hE hG hl
  have hl : lv_has ls 3 [(0, .ref (ad kq)), (1, .int aq), (2, .int mq)] := hl
  have hinX6 : ∀ w ∈ u_ws RX6 TX6 3, w ∈ wsX6_set := by decide +kernel
  refine lv_aload_n hx hb dX6_set_0 rfl (lv_at hl 0 rfl) ?_
  refine lv_iconst (v := nI 1) hx hb dX6_set_1 (by decide) ?_
  refine g_puti (C := RX6) (T := TX6) (NN := 3) (ci := 6) hx hb hts hinX6 tyX6 tyX6_ok nmX6 hown hE hG (k := kq) hk.1 (gw_r hk) rfl 0 (by decide) (hts (.fieldLink RX6 7 "Commutator$Reading" "known" "Z") (List.mem_of_getElem? (i := 1) rfl)) rfl rfl (ty := .boolean) (v := nI 1) (by decide +kernel) rfl rfl (Nat.le_of_ble_eq_true rfl) ((gC_r hk cy ad _ _).trans rfl) dX6_set_2 (fun H locs hG => ?_)
  refine lv_aload_n hx hb dX6_set_5 rfl (lv_at hl 0 rfl) ?_
  refine lv_iload_n hx hb dX6_set_6 rfl (lv_at hl 1 rfl) ?_
  refine g_puti (C := RX6) (T := TX6) (NN := 3) (ci := 6) hx hb hts hinX6 tyX6 tyX6_ok nmX6 hown hE hG (k := kq) hk.1 (gw_r hk) rfl 1 (by decide) (hts (.fieldLink RX6 13 "Commutator$Reading" "amount" "I") (List.mem_of_getElem? (i := 2) rfl)) rfl rfl (ty := .int) (v := aq) (by decide +kernel) rfl rfl (Nat.le_of_ble_eq_true rfl) ((gC_r hk cy ad _ _).trans rfl) dX6_set_7 (fun H locs hG => ?_)
  refine lv_aload_n hx hb dX6_set_10 rfl (lv_at hl 0 rfl) ?_
  refine lv_iload_n hx hb dX6_set_11 rfl (lv_at hl 2 rfl) ?_
  refine g_puti (C := RX6) (T := TX6) (NN := 3) (ci := 6) hx hb hts hinX6 tyX6 tyX6_ok nmX6 hown hE hG (k := kq) hk.1 (gw_r hk) rfl 2 (by decide) (hts (.fieldLink RX6 17 "Commutator$Reading" "moment" "I") (List.mem_of_getElem? (i := 3) rfl)) rfl rfl (ty := .int) (v := mq) (by decide +kernel) rfl rfl (Nat.le_of_ble_eq_true rfl) ((gC_r hk cy ad _ _).trans rfl) dX6_set_12 (fun H locs hG => ?_)
  exact g_vret hx hb hr hlocks hG ⟨rfl, rfl, rfl⟩ dX6_set_15

abbrev PX6_forget (ad : Nat → Nat) (A : Nat → Nat → Int32) (J : Nat → Nat → Int64) (kq : Nat) : Option Value → (Nat → Nat → Int32) → (Nat → Nat → Int64) → Prop := fun v_ A1 J1 => (v_ = none ∧ gu A kq 0 (nI 0) = A1 ∧ J = J1)
set_option maxHeartbeats 4000000 in
set_option maxRecDepth 100000 in
theorem cX6_forgetC (l : Launch) (D : va_G) (cy : Nat → ClassId) (base : Nat) (ad : Nat → Nat) (n : Nat) (A : Nat → Nat → Int32) (J : Nat → Nat → Int64) (kq : Nat) (hk : gIsR n kq) : gMet l yX6_forget wsX6_forget ({ frames := 0, cells := 0, slots := 0, locals := 0 } : Room) D cy base ad n A J [.ref (ad kq)] (PX6_forget ad A J kq) := by
  refine g_ofW (cc := cX6_forget) (maxL := 1) (ret := none) (by decide) rfl (Nat.le_of_ble_eq_true rfl) ?_
  intro pM eM sM mM aM bM methM cM H locs ls hx hb hr hts hown hlocks hml hE hG hl
  have hl : lv_has ls 1 [(0, .ref (ad kq))] := hl
  have hinX6 : ∀ w ∈ u_ws RX6 TX6 3, w ∈ wsX6_forget := by decide +kernel
  refine lv_aload_n hx hb dX6_forget_0 rfl (lv_at hl 0 rfl) ?_
  refine lv_iconst (v := nI 0) hx hb dX6_forget_1 (by decide) ?_
  refine g_puti (C := RX6) (T := TX6) (NN := 3) (ci := 6) hx hb hts hinX6 tyX6 tyX6_ok nmX6 hown hE hG (k := kq) hk.1 (gw_r hk) rfl 0 (by decide) (hts (.fieldLink RX6 7 "Commutator$Reading" "known" "Z") (List.mem_of_getElem? (i := 1) rfl)) rfl rfl (ty := .boolean) (v := nI 0) (by decide +kernel) rfl rfl (Nat.le_of_ble_eq_true rfl) ((gC_r hk cy ad _ _).trans rfl) dX6_forget_2 (fun H locs hG => ?_)
  exact g_vret hx hb hr hlocks hG ⟨rfl, rfl, rfl⟩ dX6_forget_5

abbrev PX4_signWeight (ad : Nat → Nat) (A : Nat → Nat → Int32) (J : Nat → Nat → Int64) (G : Nat → Nat → Int) (iq : Nat) : Option Value → (Nat → Nat → Int32) → (Nat → Nat → Int64) → Prop := fun v_ A1 J1 => (v_ = some (.int (zI (gHf (G 29 iq)))) ∧ A = A1 ∧ J = J1)
set_option maxHeartbeats 4000000 in
set_option maxRecDepth 100000 in
theorem cX4_signWeightC (l : Launch) (D : va_G) (cy : Nat → ClassId) (base : Nat) (ad : Nat → Nat) (n : Nat) (A : Nat → Nat → Int32) (J : Nat → Nat → Int64) (G : Nat → Nat → Int) (iq : Nat) (hi : iq < n) (hP : PtR A G iq) (hT : TOk G iq) : gMet l yX4_signWeight wsX4_signWeight ({ frames := 0, cells := 0, slots := 0, locals := 0 } : Room) D cy base ad n A J [.ref (ad (33 + 2 * iq))] (PX4_signWeight ad A J G iq) := by
  refine g_ofW (cc := cX4_signWeight) (maxL := 1) (ret := (some .int)) (by decide) rfl (Nat.le_of_ble_eq_true rfl) ?_
  intro pM eM sM mM aM bM methM cM H locs ls hx hb hr hts hown hlocks hml hE hG hl
  have hl : lv_has ls 1 [(0, .ref (ad (33 + 2 * iq)))] := hl
  have hinX4 : ∀ w ∈ u_ws RX4 TX4 10, w ∈ wsX4_signWeight := by decide +kernel
  refine lv_iconst (v := nI 1) hx hb dX4_signWeight_0 (by decide) ?_
  refine lv_aload_n hx hb dX4_signWeight_1 rfl (lv_at hl 0 rfl) ?_
  refine g_get (C := RX4) (T := TX4) (NN := 10) (ci := 4) hx hb hts hinX4 hown hE hG (k := 33 + 2 * iq) (by omega) (gw_pt cy ad n _ _ iq) rfl 0 (by decide) (hts (.fieldLink RX4 9 "Commutator$Point" "width" "I") (List.mem_of_getElem? (i := 1) rfl)) rfl (v := .int (A (33 + 2 * iq) 0)) rfl dX4_signWeight_2 ?_
  refine g_top (y := zI (G 29 iq)) (hP.1) ?_
  refine lv_iconst (v := nI 1) hx hb dX4_signWeight_5 (by decide) ?_
  refine lv_isub hx hb dX4_signWeight_6 ?_
  refine g_top (y := zI ((G 29 iq) - 1)) (zI_sub_in _ _) ?_
  refine lv_ishl hx hb dX4_signWeight_7 ?_
  refine g_top (y := zI (gHf (G 29 iq))) (shl_hf (by omega) (by omega)) ?_
  exact g_iret hx hb hr hlocks hG ⟨rfl, rfl, rfl⟩ dX4_signWeight_8

abbrev PX4_lowest (ad : Nat → Nat) (A : Nat → Nat → Int32) (J : Nat → Nat → Int64) (G : Nat → Nat → Int) (iq : Nat) : Option Value → (Nat → Nat → Int32) → (Nat → Nat → Int64) → Prop := fun v_ A1 J1 => (v_ = some (.int (zI (gLo (G 30 iq) (G 29 iq)))) ∧ A = A1 ∧ J = J1)
set_option maxHeartbeats 4000000 in
set_option maxRecDepth 100000 in
theorem cX4_lowestC (l : Launch) (D : va_G) (cy : Nat → ClassId) (base : Nat) (ad : Nat → Nat) (n : Nat) (A : Nat → Nat → Int32) (J : Nat → Nat → Int64) (G : Nat → Nat → Int) (iq : Nat) (hi : iq < n) (hP : PtR A G iq) (hT : TOk G iq) : gMet l yX4_lowest wsX4_lowest ({ frames := 1, cells := 0, slots := 0, locals := 20 } : Room) D cy base ad n A J [.ref (ad (33 + 2 * iq))] (PX4_lowest ad A J G iq) := by
  refine g_ofW (cc := cX4_lowest) (maxL := 1) (ret := (some .int)) (by decide) rfl (Nat.le_of_ble_eq_true rfl) ?_
  intro pM eM sM mM aM bM methM cM H locs ls hx hb hr hts hown hlocks hml hE hG hl
  have hl : lv_has ls 1 [(0, .ref (ad (33 + 2 * iq)))] := hl
  have hinX4 : ∀ w ∈ u_ws RX4 TX4 10, w ∈ wsX4_lowest := by decide +kernel
  have hhf := gHf_range (w := G 29 iq) (by omega) (by omega)
  refine lv_aload_n hx hb dX4_lowest_0 rfl (lv_at hl 0 rfl) ?_
  refine g_get (C := RX4) (T := TX4) (NN := 10) (ci := 4) hx hb hts hinX4 hown hE hG (k := 33 + 2 * iq) (by omega) (gw_pt cy ad n _ _ iq) rfl 1 (by decide) (hts (.fieldLink RX4 15 "Commutator$Point" "convention" "I") (List.mem_of_getElem? (i := 1) rfl)) rfl (v := .int (A (33 + 2 * iq) 1)) rfl dX4_lowest_1 ?_
  refine g_top (y := zI (G 30 iq)) (hP.2.1) ?_
  rcases (show (G 30 iq) = 0 ∨ (G 30 iq) = 1 ∨ (G 30 iq) = 2 ∨ (G 30 iq) = 3 by omega) with hs4 | hs4 | hs4 | hs4
  · refine g_top (y := nI 0) (by rw [hs4]; rfl) ?_
    refine lv_lookup (tgt := 32) hx hb dX4_lowest_4 (by decide) rfl (by decide) ?_
    refine lv_iconst (v := nI 0) hx hb dX4_lowest_32 (by decide) ?_
    exact g_iret hx hb hr hlocks hG ⟨(show some (Value.int (zI 0)) = _ from congrArg (fun q9 => some (Value.int (zI q9))) (by simp only [gLo]; (repeat' split) <;> omega)), rfl, rfl⟩ dX4_lowest_33
  · refine g_top (y := nI 1) (by rw [hs4]; rfl) ?_
    refine lv_lookup (tgt := 41) hx hb dX4_lowest_4 (by decide) rfl (by decide) ?_
    refine lv_aload_n hx hb dX4_lowest_41 rfl (lv_at hl 0 rfl) ?_
    refine g_callV (As := []) (rest := []) (r := (RX4, TX4, 10)) ⟨hx, hb, hml, hown, hts⟩ hE hG (cX4_signWeightC l D cy base ad n A J G iq (by first | assumption | omega) (by first | exact hP | exact hM.1 | exact hM.pa.1 | exact (hM.th _).1 | exact (hM.th _).pa.1) (by first | assumption | omega)) (cwV 0 hts gX4_lowest_X4_signWeight rfl rfl rfl (by decide +kernel) ⟨Nat.le_of_ble_eq_true rfl, Nat.le_of_ble_eq_true rfl⟩) (by omega) (gw_pt cy ad n _ _ iq) rfl rfl hl.1 rfl (Nat.le_of_ble_eq_true rfl) dX4_lowest_42 ⟨Nat.zero_le _, Nat.zero_le _⟩ (fun v_ A42 J42 H locs hp hG => ?_)
    obtain ⟨rfl, rfl, rfl⟩ := hp
    refine W.eq (g2 := F0 mM 45 ls [.int (zI (gHf (G 29 iq)))]) rfl ?_
    refine lv_ineg hx hb dX4_lowest_45 ?_
    refine g_top (y := zI (-(gHf (G 29 iq)))) (zI_neg _) ?_
    exact g_iret hx hb hr hlocks hG ⟨(show some (Value.int (zI (-(gHf (G 29 iq))))) = _ from congrArg (fun q9 => some (Value.int (zI q9))) (by simp only [gLo]; (repeat' split) <;> omega)), rfl, rfl⟩ dX4_lowest_46
  · refine g_top (y := nI 2) (by rw [hs4]; rfl) ?_
    refine lv_lookup (tgt := 34) hx hb dX4_lowest_4 (by decide) rfl (by decide) ?_
    refine lv_iconst (v := nI 1) hx hb dX4_lowest_34 (by decide) ?_
    refine lv_aload_n hx hb dX4_lowest_35 rfl (lv_at hl 0 rfl) ?_
    refine g_callV (As := []) (rest := [.int (nI 1)]) (r := (RX4, TX4, 10)) ⟨hx, hb, hml, hown, hts⟩ hE hG (cX4_signWeightC l D cy base ad n A J G iq (by first | assumption | omega) (by first | exact hP | exact hM.1 | exact hM.pa.1 | exact (hM.th _).1 | exact (hM.th _).pa.1) (by first | assumption | omega)) (cwV 0 hts gX4_lowest_X4_signWeight rfl rfl rfl (by decide +kernel) ⟨Nat.le_of_ble_eq_true rfl, Nat.le_of_ble_eq_true rfl⟩) (by omega) (gw_pt cy ad n _ _ iq) rfl rfl hl.1 rfl (Nat.le_of_ble_eq_true rfl) dX4_lowest_36 ⟨Nat.zero_le _, Nat.zero_le _⟩ (fun v_ A36 J36 H locs hp hG => ?_)
    obtain ⟨rfl, rfl, rfl⟩ := hp
    refine W.eq (g2 := F0 mM 39 ls [.int (zI (gHf (G 29 iq))), .int (nI 1)]) rfl ?_
    refine lv_isub hx hb dX4_lowest_39 ?_
    refine g_top (y := zI (1 - (gHf (G 29 iq)))) (zI_sub_ni _ _) ?_
    exact g_iret hx hb hr hlocks hG ⟨(show some (Value.int (zI (1 - (gHf (G 29 iq))))) = _ from congrArg (fun q9 => some (Value.int (zI q9))) (by simp only [gLo]; (repeat' split) <;> omega)), rfl, rfl⟩ dX4_lowest_40
  · refine g_top (y := nI 3) (by rw [hs4]; rfl) ?_
    refine lv_lookup (tgt := 41) hx hb dX4_lowest_4 (by decide) rfl (by decide) ?_
    refine lv_aload_n hx hb dX4_lowest_41 rfl (lv_at hl 0 rfl) ?_
    refine g_callV (As := []) (rest := []) (r := (RX4, TX4, 10)) ⟨hx, hb, hml, hown, hts⟩ hE hG (cX4_signWeightC l D cy base ad n A J G iq (by first | assumption | omega) (by first | exact hP | exact hM.1 | exact hM.pa.1 | exact (hM.th _).1 | exact (hM.th _).pa.1) (by first | assumption | omega)) (cwV 0 hts gX4_lowest_X4_signWeight rfl rfl rfl (by decide +kernel) ⟨Nat.le_of_ble_eq_true rfl, Nat.le_of_ble_eq_true rfl⟩) (by omega) (gw_pt cy ad n _ _ iq) rfl rfl hl.1 rfl (Nat.le_of_ble_eq_true rfl) dX4_lowest_42 ⟨Nat.zero_le _, Nat.zero_le _⟩ (fun v_ A42 J42 H locs hp hG => ?_)
    obtain ⟨rfl, rfl, rfl⟩ := hp
    refine W.eq (g2 := F0 mM 45 ls [.int (zI (gHf (G 29 iq)))]) rfl ?_
    refine lv_ineg hx hb dX4_lowest_45 ?_
    refine g_top (y := zI (-(gHf (G 29 iq)))) (zI_neg _) ?_
    exact g_iret hx hb hr hlocks hG ⟨(show some (Value.int (zI (-(gHf (G 29 iq))))) = _ from congrArg (fun q9 => some (Value.int (zI q9))) (by simp only [gLo]; (repeat' split) <;> omega)), rfl, rfl⟩ dX4_lowest_46

abbrev PX4_highest (ad : Nat → Nat) (A : Nat → Nat → Int32) (J : Nat → Nat → Int64) (G : Nat → Nat → Int) (iq : Nat) : Option Value → (Nat → Nat → Int32) → (Nat → Nat → Int64) → Prop := fun v_ A1 J1 => (v_ = some (.int (zI (gHi (G 30 iq) (G 29 iq)))) ∧ A = A1 ∧ J = J1)
set_option maxHeartbeats 4000000 in
set_option maxRecDepth 100000 in
theorem cX4_highestC (l : Launch) (D : va_G) (cy : Nat → ClassId) (base : Nat) (ad : Nat → Nat) (n : Nat) (A : Nat → Nat → Int32) (J : Nat → Nat → Int64) (G : Nat → Nat → Int) (iq : Nat) (hi : iq < n) (hP : PtR A G iq) (hT : TOk G iq) : gMet l yX4_highest wsX4_highest ({ frames := 1, cells := 0, slots := 0, locals := 20 } : Room) D cy base ad n A J [.ref (ad (33 + 2 * iq))] (PX4_highest ad A J G iq) := by
  refine g_ofW (cc := cX4_highest) (maxL := 1) (ret := (some .int)) (by decide) rfl (Nat.le_of_ble_eq_true rfl) ?_
  intro pM eM sM mM aM bM methM cM H locs ls hx hb hr hts hown hlocks hml hE hG hl
  have hl : lv_has ls 1 [(0, .ref (ad (33 + 2 * iq)))] := hl
  have hinX4 : ∀ w ∈ u_ws RX4 TX4 10, w ∈ wsX4_highest := by decide +kernel
  have hhf := gHf_range (w := G 29 iq) (by omega) (by omega)
  refine lv_aload_n hx hb dX4_highest_0 rfl (lv_at hl 0 rfl) ?_
  refine g_get (C := RX4) (T := TX4) (NN := 10) (ci := 4) hx hb hts hinX4 hown hE hG (k := 33 + 2 * iq) (by omega) (gw_pt cy ad n _ _ iq) rfl 1 (by decide) (hts (.fieldLink RX4 15 "Commutator$Point" "convention" "I") (List.mem_of_getElem? (i := 1) rfl)) rfl (v := .int (A (33 + 2 * iq) 1)) rfl dX4_highest_1 ?_
  refine g_top (y := zI (G 30 iq)) (hP.2.1) ?_
  refine lv_if_ne (tgt := 18) hx hb dX4_highest_4 (by decide) (fun c4 => ?_) (fun c4 => ?_)
  · skip
    have c4 : ¬ ((zI (G 30 iq)) = nI 0) := c4
    have c4 : ¬ ((G 30 iq) = ((0 : Nat) : Int)) := fun z9 => c4 ((cmp_eq (zI_toInt (by omega) (by omega)) (nI_toInt (by omega))).mpr z9)
    refine lv_aload_n hx hb dX4_highest_18 rfl (lv_at hl 0 rfl) ?_
    refine g_callV (As := []) (rest := []) (r := (RX4, TX4, 10)) ⟨hx, hb, hml, hown, hts⟩ hE hG (cX4_signWeightC l D cy base ad n A J G iq (by first | assumption | omega) (by first | exact hP | exact hM.1 | exact hM.pa.1 | exact (hM.th _).1 | exact (hM.th _).pa.1) (by first | assumption | omega)) (cwV 0 hts gX4_highest_X4_signWeight rfl rfl rfl (by decide +kernel) ⟨Nat.le_of_ble_eq_true rfl, Nat.le_of_ble_eq_true rfl⟩) (by omega) (gw_pt cy ad n _ _ iq) rfl rfl hl.1 rfl (Nat.le_of_ble_eq_true rfl) dX4_highest_19 ⟨Nat.zero_le _, Nat.zero_le _⟩ (fun v_ A19 J19 H locs hp hG => ?_)
    obtain ⟨rfl, rfl, rfl⟩ := hp
    refine W.eq (g2 := F0 mM 22 ls [.int (zI (gHf (G 29 iq)))]) rfl ?_
    refine lv_iconst (v := nI 1) hx hb dX4_highest_22 (by decide) ?_
    refine lv_isub hx hb dX4_highest_23 ?_
    refine g_top (y := zI ((gHf (G 29 iq)) - 1)) (zI_sub_in _ _) ?_
    exact g_iret hx hb hr hlocks hG ⟨(show some (Value.int (zI ((gHf (G 29 iq)) - 1))) = _ from congrArg (fun q9 => some (Value.int (zI q9))) (by simp only [gHi]; (repeat' split) <;> omega)), rfl, rfl⟩ dX4_highest_24
  · skip
    have c4 : (zI (G 30 iq)) = nI 0 := c4
    have c4 : (G 30 iq) = ((0 : Nat) : Int) := (cmp_eq (zI_toInt (by omega) (by omega)) (nI_toInt (by omega))).mp c4
    refine lv_iconst (v := nI 1) hx hb dX4_highest_7 (by decide) ?_
    refine lv_aload_n hx hb dX4_highest_8 rfl (lv_at hl 0 rfl) ?_
    refine g_get (C := RX4) (T := TX4) (NN := 10) (ci := 4) hx hb hts hinX4 hown hE hG (k := 33 + 2 * iq) (by omega) (gw_pt cy ad n _ _ iq) rfl 0 (by decide) (hts (.fieldLink RX4 9 "Commutator$Point" "width" "I") (List.mem_of_getElem? (i := 2) rfl)) rfl (v := .int (A (33 + 2 * iq) 0)) rfl dX4_highest_9 ?_
    refine g_top (y := zI (G 29 iq)) (hP.1) ?_
    refine lv_ishl hx hb dX4_highest_12 ?_
    refine g_top (y := zI (2 * gHf (G 29 iq))) (shl_w (by omega) (by omega)) ?_
    refine lv_iconst (v := nI 1) hx hb dX4_highest_13 (by decide) ?_
    refine lv_isub hx hb dX4_highest_14 ?_
    refine g_top (y := zI ((2 * gHf (G 29 iq)) - 1)) (zI_sub_in _ _) ?_
    refine lv_goto (tgt := 24) hx hb dX4_highest_15 (by decide) ?_
    exact g_iret hx hb hr hlocks hG ⟨(show some (Value.int (zI ((2 * gHf (G 29 iq)) - 1))) = _ from congrArg (fun q9 => some (Value.int (zI q9))) (by simp only [gHi]; (repeat' split) <;> omega)), rfl, rfl⟩ dX4_highest_24

abbrev PX4_encode (ad : Nat → Nat) (A : Nat → Nat → Int32) (J : Nat → Nat → Int64) (G : Nat → Nat → Int) (iq : Nat) (vq : Int) : Option Value → (Nat → Nat → Int32) → (Nat → Nat → Int64) → Prop := fun v_ A1 J1 => (v_ = some (.int (zI (gEnc (G 30 iq) (G 29 iq) vq))) ∧ A = A1 ∧ J = J1)
set_option maxHeartbeats 4000000 in
set_option maxRecDepth 100000 in
theorem cX4_encodeC (l : Launch) (D : va_G) (cy : Nat → ClassId) (base : Nat) (ad : Nat → Nat) (n : Nat) (A : Nat → Nat → Int32) (J : Nat → Nat → Int64) (G : Nat → Nat → Int) (iq : Nat) (vq : Int) (hi : iq < n) (hP : PtR A G iq) (hT : TOk G iq) (hv : gLo (G 30 iq) (G 29 iq) ≤ vq ∧ vq ≤ gHi (G 30 iq) (G 29 iq)) : gMet l yX4_encode wsX4_encode ({ frames := 1, cells := 0, slots := 0, locals := 20 } : Room) D cy base ad n A J [.ref (ad (33 + 2 * iq)), .int (zI vq)] (PX4_encode ad A J G iq vq) := by
  refine g_ofW (cc := cX4_encode) (maxL := 2) (ret := (some .int)) (by decide) rfl (Nat.le_of_ble_eq_true rfl) ?_
  intro pM eM sM mM aM bM methM cM H locs ls hx hb hr hts hown hlocks hml hE hG hl
  have hl : lv_has ls 2 [(0, .ref (ad (33 + 2 * iq))), (1, .int (zI vq))] := hl
  have hinX4 : ∀ w ∈ u_ws RX4 TX4 10, w ∈ wsX4_encode := by decide +kernel
  have hhf := gHf_range (w := G 29 iq) (by omega) (by omega)
  have hlo := gLo_range (cv := G 30 iq) (w := G 29 iq) (by omega) (by omega)
  have hhi := gHi_range (cv := G 30 iq) (w := G 29 iq) (by omega) (by omega)
  refine lv_aload_n hx hb dX4_encode_0 rfl (lv_at hl 0 rfl) ?_
  refine g_get (C := RX4) (T := TX4) (NN := 10) (ci := 4) hx hb hts hinX4 hown hE hG (k := 33 + 2 * iq) (by omega) (gw_pt cy ad n _ _ iq) rfl 1 (by decide) (hts (.fieldLink RX4 15 "Commutator$Point" "convention" "I") (List.mem_of_getElem? (i := 1) rfl)) rfl (v := .int (A (33 + 2 * iq) 1)) rfl dX4_encode_1 ?_
  refine g_top (y := zI (G 30 iq)) (hP.2.1) ?_
  rcases (show (G 30 iq) = 0 ∨ (G 30 iq) = 1 ∨ (G 30 iq) = 2 ∨ (G 30 iq) = 3 by omega) with hs4 | hs4 | hs4 | hs4
  · refine g_top (y := nI 0) (by rw [hs4]; rfl) ?_
    refine lv_tableOut (tgt := 71) hx hb dX4_encode_4 (by decide) (by decide) ?_
    refine lv_iload_n hx hb dX4_encode_71 rfl (lv_at hl 1 rfl) ?_
    exact g_iret hx hb hr hlocks hG ⟨(show some (Value.int (zI vq)) = _ from congrArg (fun q9 => some (Value.int (zI q9))) (by simp only [gEnc]; (repeat' split) <;> omega)), rfl, rfl⟩ dX4_encode_72
  · refine g_top (y := nI 1) (by rw [hs4]; rfl) ?_
    refine lv_tableIn (tgt := 32) (off := 28) hx hb dX4_encode_4 (by decide) (by decide) (by decide) (by decide) ?_
    refine lv_iload_n hx hb dX4_encode_32 rfl (lv_at hl 1 rfl) ?_
    refine lv_if_ge (tgt := 47) hx hb dX4_encode_33 (by decide) (fun c33 => ?_) (fun c33 => ?_)
    · skip
      have c33 : nI 0 ≤ (zI vq) := c33
      have c33 : ((0 : Nat) : Int) ≤ vq := (cmp_le (nI_toInt (by omega)) (zI_toInt (by omega) (by omega))).mp c33
      refine lv_iload_n hx hb dX4_encode_47 rfl (lv_at hl 1 rfl) ?_
      exact g_iret hx hb hr hlocks hG ⟨(show some (Value.int (zI vq)) = _ from congrArg (fun q9 => some (Value.int (zI q9))) (by simp only [gEnc]; (repeat' split) <;> omega)), rfl, rfl⟩ dX4_encode_48
    · skip
      have c33 : ¬ (nI 0 ≤ (zI vq)) := c33
      have c33 : ¬ (((0 : Nat) : Int) ≤ vq) := fun z9 => c33 ((cmp_le (nI_toInt (by omega)) (zI_toInt (by omega) (by omega))).mpr z9)
      refine lv_iload_n hx hb dX4_encode_36 rfl (lv_at hl 1 rfl) ?_
      refine lv_iconst (v := nI 1) hx hb dX4_encode_37 (by decide) ?_
      refine lv_aload_n hx hb dX4_encode_38 rfl (lv_at hl 0 rfl) ?_
      refine g_get (C := RX4) (T := TX4) (NN := 10) (ci := 4) hx hb hts hinX4 hown hE hG (k := 33 + 2 * iq) (by omega) (gw_pt cy ad n _ _ iq) rfl 0 (by decide) (hts (.fieldLink RX4 9 "Commutator$Point" "width" "I") (List.mem_of_getElem? (i := 2) rfl)) rfl (v := .int (A (33 + 2 * iq) 0)) rfl dX4_encode_39 ?_
      refine g_top (y := zI (G 29 iq)) (hP.1) ?_
      refine lv_ishl hx hb dX4_encode_42 ?_
      refine g_top (y := zI (2 * gHf (G 29 iq))) (shl_w (by omega) (by omega)) ?_
      refine lv_iadd hx hb dX4_encode_43 ?_
      refine g_top (y := zI (vq + (2 * gHf (G 29 iq)))) (zI_add _ _) ?_
      refine lv_goto (tgt := 48) hx hb dX4_encode_44 (by decide) ?_
      exact g_iret hx hb hr hlocks hG ⟨(show some (Value.int (zI (vq + (2 * gHf (G 29 iq))))) = _ from congrArg (fun q9 => some (Value.int (zI q9))) (by simp only [gEnc]; (repeat' split) <;> omega)), rfl, rfl⟩ dX4_encode_48
  · refine g_top (y := nI 2) (by rw [hs4]; rfl) ?_
    refine lv_tableIn (tgt := 49) (off := 45) hx hb dX4_encode_4 (by decide) (by decide) (by decide) (by decide) ?_
    refine lv_iload_n hx hb dX4_encode_49 rfl (lv_at hl 1 rfl) ?_
    refine lv_if_ge (tgt := 62) hx hb dX4_encode_50 (by decide) (fun c50 => ?_) (fun c50 => ?_)
    · skip
      have c50 : nI 0 ≤ (zI vq) := c50
      have c50 : ((0 : Nat) : Int) ≤ vq := (cmp_le (nI_toInt (by omega)) (zI_toInt (by omega) (by omega))).mp c50
      refine lv_iload_n hx hb dX4_encode_62 rfl (lv_at hl 1 rfl) ?_
      exact g_iret hx hb hr hlocks hG ⟨(show some (Value.int (zI vq)) = _ from congrArg (fun q9 => some (Value.int (zI q9))) (by simp only [gEnc]; (repeat' split) <;> omega)), rfl, rfl⟩ dX4_encode_63
    · skip
      have c50 : ¬ (nI 0 ≤ (zI vq)) := c50
      have c50 : ¬ (((0 : Nat) : Int) ≤ vq) := fun z9 => c50 ((cmp_le (nI_toInt (by omega)) (zI_toInt (by omega) (by omega))).mpr z9)
      refine lv_aload_n hx hb dX4_encode_53 rfl (lv_at hl 0 rfl) ?_
      refine g_callV (As := []) (rest := []) (r := (RX4, TX4, 10)) ⟨hx, hb, hml, hown, hts⟩ hE hG (cX4_signWeightC l D cy base ad n A J G iq (by first | assumption | omega) (by first | exact hP | exact hM.1 | exact hM.pa.1 | exact (hM.th _).1 | exact (hM.th _).pa.1) (by first | assumption | omega)) (cwV 0 hts gX4_encode_X4_signWeight rfl rfl rfl (by decide +kernel) ⟨Nat.le_of_ble_eq_true rfl, Nat.le_of_ble_eq_true rfl⟩) (by omega) (gw_pt cy ad n _ _ iq) rfl rfl hl.1 rfl (Nat.le_of_ble_eq_true rfl) dX4_encode_54 ⟨Nat.zero_le _, Nat.zero_le _⟩ (fun v_ A54 J54 H locs hp hG => ?_)
      obtain ⟨rfl, rfl, rfl⟩ := hp
      refine W.eq (g2 := F0 mM 57 ls [.int (zI (gHf (G 29 iq)))]) rfl ?_
      refine lv_iload_n hx hb dX4_encode_57 rfl (lv_at hl 1 rfl) ?_
      refine lv_isub hx hb dX4_encode_58 ?_
      refine g_top (y := zI ((gHf (G 29 iq)) - vq)) (zI_sub _ _) ?_
      refine lv_goto (tgt := 63) hx hb dX4_encode_59 (by decide) ?_
      exact g_iret hx hb hr hlocks hG ⟨(show some (Value.int (zI ((gHf (G 29 iq)) - vq))) = _ from congrArg (fun q9 => some (Value.int (zI q9))) (by simp only [gEnc]; (repeat' split) <;> omega)), rfl, rfl⟩ dX4_encode_63
  · refine g_top (y := nI 3) (by rw [hs4]; rfl) ?_
    refine lv_tableIn (tgt := 64) (off := 60) hx hb dX4_encode_4 (by decide) (by decide) (by decide) (by decide) ?_
    refine lv_iload_n hx hb dX4_encode_64 rfl (lv_at hl 1 rfl) ?_
    refine lv_aload_n hx hb dX4_encode_65 rfl (lv_at hl 0 rfl) ?_
    refine g_callV (As := []) (rest := [.int (zI vq)]) (r := (RX4, TX4, 10)) ⟨hx, hb, hml, hown, hts⟩ hE hG (cX4_signWeightC l D cy base ad n A J G iq (by first | assumption | omega) (by first | exact hP | exact hM.1 | exact hM.pa.1 | exact (hM.th _).1 | exact (hM.th _).pa.1) (by first | assumption | omega)) (cwV 0 hts gX4_encode_X4_signWeight rfl rfl rfl (by decide +kernel) ⟨Nat.le_of_ble_eq_true rfl, Nat.le_of_ble_eq_true rfl⟩) (by omega) (gw_pt cy ad n _ _ iq) rfl rfl hl.1 rfl (Nat.le_of_ble_eq_true rfl) dX4_encode_66 ⟨Nat.zero_le _, Nat.zero_le _⟩ (fun v_ A66 J66 H locs hp hG => ?_)
    obtain ⟨rfl, rfl, rfl⟩ := hp
    refine W.eq (g2 := F0 mM 69 ls [.int (zI (gHf (G 29 iq))), .int (zI vq)]) rfl ?_
    refine lv_iadd hx hb dX4_encode_69 ?_
    refine g_top (y := zI (vq + (gHf (G 29 iq)))) (zI_add _ _) ?_
    exact g_iret hx hb hr hlocks hG ⟨(show some (Value.int (zI (vq + (gHf (G 29 iq))))) = _ from congrArg (fun q9 => some (Value.int (zI q9))) (by simp only [gEnc]; (repeat' split) <;> omega)), rfl, rfl⟩ dX4_encode_70

abbrev PX4_decode (ad : Nat → Nat) (A : Nat → Nat → Int32) (J : Nat → Nat → Int64) (G : Nat → Nat → Int) (iq : Nat) (bq : Int) : Option Value → (Nat → Nat → Int32) → (Nat → Nat → Int64) → Prop := fun v_ A1 J1 => (v_ = some (.int (zI (gDec (G 30 iq) (G 29 iq) bq))) ∧ A = A1 ∧ J = J1)
set_option maxHeartbeats 4000000 in
set_option maxRecDepth 100000 in
theorem cX4_decodeC (l : Launch) (D : va_G) (cy : Nat → ClassId) (base : Nat) (ad : Nat → Nat) (n : Nat) (A : Nat → Nat → Int32) (J : Nat → Nat → Int64) (G : Nat → Nat → Int) (iq : Nat) (bq : Int) (hi : iq < n) (hP : PtR A G iq) (hT : TOk G iq) (hb1 : 0 ≤ bq ∧ bq < 4096) : gMet l yX4_decode wsX4_decode ({ frames := 1, cells := 0, slots := 0, locals := 20 } : Room) D cy base ad n A J [.ref (ad (33 + 2 * iq)), .int (zI bq)] (PX4_decode ad A J G iq bq) := by
  refine g_ofW (cc := cX4_decode) (maxL := 3) (ret := (some .int)) (by decide) rfl (Nat.le_of_ble_eq_true rfl) ?_
  intro pM eM sM mM aM bM methM cM H locs ls hx hb hr hts hown hlocks hml hE hG hl
  have hl : lv_has ls 3 [(0, .ref (ad (33 + 2 * iq))), (1, .int (zI bq))] := hl
  have hinX4 : ∀ w ∈ u_ws RX4 TX4 10, w ∈ wsX4_decode := by decide +kernel
  have hhf := gHf_range (w := G 29 iq) (by omega) (by omega)
  refine lv_iload_n hx hb dX4_decode_0 rfl (lv_at hl 1 rfl) ?_
  refine lv_aload_n hx hb dX4_decode_1 rfl (lv_at hl 0 rfl) ?_
  refine g_callV (As := []) (rest := [.int (zI bq)]) (r := (RX4, TX4, 10)) ⟨hx, hb, hml, hown, hts⟩ hE hG (cX4_signWeightC l D cy base ad n A J G iq (by first | assumption | omega) (by first | exact hP | exact hM.1 | exact hM.pa.1 | exact (hM.th _).1 | exact (hM.th _).pa.1) (by first | assumption | omega)) (cwV 0 hts gX4_decode_X4_signWeight rfl rfl rfl (by decide +kernel) ⟨Nat.le_of_ble_eq_true rfl, Nat.le_of_ble_eq_true rfl⟩) (by omega) (gw_pt cy ad n _ _ iq) rfl rfl hl.1 rfl (Nat.le_of_ble_eq_true rfl) dX4_decode_2 ⟨Nat.zero_le _, Nat.zero_le _⟩ (fun v_ A2 J2 H locs hp hG => ?_)
  obtain ⟨rfl, rfl, rfl⟩ := hp
  refine W.eq (g2 := F0 mM 5 ls [.int (zI (gHf (G 29 iq))), .int (zI bq)]) rfl ?_
  refine lv_icmp_lt (tgt := 12) hx hb dX4_decode_5 (by decide) (fun c5 => ?_) (fun c5 => ?_)
  · skip
    have c5 : bq < (gHf (G 29 iq)) := (cmp_lt (zI_toInt (by omega) (by omega)) (zI_toInt (by omega) (by omega))).mp c5
    refine lv_iconst (v := nI 0) hx hb dX4_decode_12 (by decide) ?_
    refine lv_istore_n (lv' := [(2, .int (nI 0)), (0, .ref (ad (33 + 2 * iq))), (1, .int (zI bq))]) hx hb dX4_decode_13 rfl hl (by decide) rfl (fun ls hl => ?_)
    refine lv_aload_n hx hb dX4_decode_14 rfl (lv_at hl 1 rfl) ?_
    refine g_get (C := RX4) (T := TX4) (NN := 10) (ci := 4) hx hb hts hinX4 hown hE hG (k := 33 + 2 * iq) (by omega) (gw_pt cy ad n _ _ iq) rfl 1 (by decide) (hts (.fieldLink RX4 15 "Commutator$Point" "convention" "I") (List.mem_of_getElem? (i := 1) rfl)) rfl (v := .int (A (33 + 2 * iq) 1)) rfl dX4_decode_15 ?_
    refine g_top (y := zI (G 30 iq)) (hP.2.1) ?_
    rcases (show (G 30 iq) = 0 ∨ (G 30 iq) = 1 ∨ (G 30 iq) = 2 ∨ (G 30 iq) = 3 by omega) with hs18 | hs18 | hs18 | hs18
    · refine g_top (y := nI 0) (by rw [hs18]; rfl) ?_
      refine lv_tableOut (tgt := 83) hx hb dX4_decode_18 (by decide) (by decide) ?_
      refine lv_iload_n hx hb dX4_decode_83 rfl (lv_at hl 2 rfl) ?_
      exact g_iret hx hb hr hlocks hG ⟨(show some (Value.int (zI bq)) = _ from congrArg (fun q9 => some (Value.int (zI q9))) (by simp only [gDec]; (repeat' split) <;> omega)), rfl, rfl⟩ dX4_decode_84
    · refine g_top (y := nI 1) (by rw [hs18]; rfl) ?_
      refine lv_tableIn (tgt := 44) (off := 26) hx hb dX4_decode_18 (by decide) (by decide) (by decide) (by decide) ?_
      refine lv_iload_n hx hb dX4_decode_44 rfl (lv_at hl 0 rfl) ?_
      refine lv_if_eq (tgt := 59) hx hb dX4_decode_45 (by decide) (fun c45 => ?_) (fun c45 => ?_)
      · skip
        refine lv_iload_n hx hb dX4_decode_59 rfl (lv_at hl 2 rfl) ?_
        exact g_iret hx hb hr hlocks hG ⟨(show some (Value.int (zI bq)) = _ from congrArg (fun q9 => some (Value.int (zI q9))) (by simp only [gDec]; (repeat' split) <;> omega)), rfl, rfl⟩ dX4_decode_60
      · skip
        exact absurd c45 (by decide)
    · refine g_top (y := nI 2) (by rw [hs18]; rfl) ?_
      refine lv_tableIn (tgt := 61) (off := 43) hx hb dX4_decode_18 (by decide) (by decide) (by decide) (by decide) ?_
      refine lv_iload_n hx hb dX4_decode_61 rfl (lv_at hl 0 rfl) ?_
      refine lv_if_eq (tgt := 74) hx hb dX4_decode_62 (by decide) (fun c62 => ?_) (fun c62 => ?_)
      · skip
        refine lv_iload_n hx hb dX4_decode_74 rfl (lv_at hl 2 rfl) ?_
        exact g_iret hx hb hr hlocks hG ⟨(show some (Value.int (zI bq)) = _ from congrArg (fun q9 => some (Value.int (zI q9))) (by simp only [gDec]; (repeat' split) <;> omega)), rfl, rfl⟩ dX4_decode_75
      · skip
        exact absurd c62 (by decide)
    · refine g_top (y := nI 3) (by rw [hs18]; rfl) ?_
      refine lv_tableIn (tgt := 76) (off := 58) hx hb dX4_decode_18 (by decide) (by decide) (by decide) (by decide) ?_
      refine lv_iload_n hx hb dX4_decode_76 rfl (lv_at hl 2 rfl) ?_
      refine lv_aload_n hx hb dX4_decode_77 rfl (lv_at hl 1 rfl) ?_
      refine g_callV (As := []) (rest := [.int (zI bq)]) (r := (RX4, TX4, 10)) ⟨hx, hb, hml, hown, hts⟩ hE hG (cX4_signWeightC l D cy base ad n A J G iq (by first | assumption | omega) (by first | exact hP | exact hM.1 | exact hM.pa.1 | exact (hM.th _).1 | exact (hM.th _).pa.1) (by first | assumption | omega)) (cwV 0 hts gX4_decode_X4_signWeight rfl rfl rfl (by decide +kernel) ⟨Nat.le_of_ble_eq_true rfl, Nat.le_of_ble_eq_true rfl⟩) (by omega) (gw_pt cy ad n _ _ iq) rfl rfl hl.1 rfl (Nat.le_of_ble_eq_true rfl) dX4_decode_78 ⟨Nat.zero_le _, Nat.zero_le _⟩ (fun v_ A78 J78 H locs hp hG => ?_)
      obtain ⟨rfl, rfl, rfl⟩ := hp
      refine W.eq (g2 := F0 mM 81 ls [.int (zI (gHf (G 29 iq))), .int (zI bq)]) rfl ?_
      refine lv_isub hx hb dX4_decode_81 ?_
      refine g_top (y := zI (bq - (gHf (G 29 iq)))) (zI_sub _ _) ?_
      exact g_iret hx hb hr hlocks hG ⟨(show some (Value.int (zI (bq - (gHf (G 29 iq))))) = _ from congrArg (fun q9 => some (Value.int (zI q9))) (by simp only [gDec]; (repeat' split) <;> omega)), rfl, rfl⟩ dX4_decode_82
  · skip
    have c5 : ¬ (bq < (gHf (G 29 iq))) := fun z9 => c5 ((cmp_lt (zI_toInt (by omega) (by omega)) (zI_toInt (by omega) (by omega))).mpr z9)
    refine lv_iconst (v := nI 1) hx hb dX4_decode_8 (by decide) ?_
    refine lv_goto (tgt := 13) hx hb dX4_decode_9 (by decide) ?_
    refine lv_istore_n (lv' := [(2, .int (nI 1)), (0, .ref (ad (33 + 2 * iq))), (1, .int (zI bq))]) hx hb dX4_decode_13 rfl hl (by decide) rfl (fun ls hl => ?_)
    refine lv_aload_n hx hb dX4_decode_14 rfl (lv_at hl 1 rfl) ?_
    refine g_get (C := RX4) (T := TX4) (NN := 10) (ci := 4) hx hb hts hinX4 hown hE hG (k := 33 + 2 * iq) (by omega) (gw_pt cy ad n _ _ iq) rfl 1 (by decide) (hts (.fieldLink RX4 15 "Commutator$Point" "convention" "I") (List.mem_of_getElem? (i := 1) rfl)) rfl (v := .int (A (33 + 2 * iq) 1)) rfl dX4_decode_15 ?_
    refine g_top (y := zI (G 30 iq)) (hP.2.1) ?_
    rcases (show (G 30 iq) = 0 ∨ (G 30 iq) = 1 ∨ (G 30 iq) = 2 ∨ (G 30 iq) = 3 by omega) with hs18 | hs18 | hs18 | hs18
    · refine g_top (y := nI 0) (by rw [hs18]; rfl) ?_
      refine lv_tableOut (tgt := 83) hx hb dX4_decode_18 (by decide) (by decide) ?_
      refine lv_iload_n hx hb dX4_decode_83 rfl (lv_at hl 2 rfl) ?_
      exact g_iret hx hb hr hlocks hG ⟨(show some (Value.int (zI bq)) = _ from congrArg (fun q9 => some (Value.int (zI q9))) (by simp only [gDec]; (repeat' split) <;> omega)), rfl, rfl⟩ dX4_decode_84
    · refine g_top (y := nI 1) (by rw [hs18]; rfl) ?_
      refine lv_tableIn (tgt := 44) (off := 26) hx hb dX4_decode_18 (by decide) (by decide) (by decide) (by decide) ?_
      refine lv_iload_n hx hb dX4_decode_44 rfl (lv_at hl 0 rfl) ?_
      refine lv_if_eq (tgt := 59) hx hb dX4_decode_45 (by decide) (fun c45 => ?_) (fun c45 => ?_)
      · skip
        exact absurd c45 (by decide)
      · skip
        refine lv_iload_n hx hb dX4_decode_48 rfl (lv_at hl 2 rfl) ?_
        refine lv_iconst (v := nI 1) hx hb dX4_decode_49 (by decide) ?_
        refine lv_aload_n hx hb dX4_decode_50 rfl (lv_at hl 1 rfl) ?_
        refine g_get (C := RX4) (T := TX4) (NN := 10) (ci := 4) hx hb hts hinX4 hown hE hG (k := 33 + 2 * iq) (by omega) (gw_pt cy ad n _ _ iq) rfl 0 (by decide) (hts (.fieldLink RX4 9 "Commutator$Point" "width" "I") (List.mem_of_getElem? (i := 2) rfl)) rfl (v := .int (A (33 + 2 * iq) 0)) rfl dX4_decode_51 ?_
        refine g_top (y := zI (G 29 iq)) (hP.1) ?_
        refine lv_ishl hx hb dX4_decode_54 ?_
        refine g_top (y := zI (2 * gHf (G 29 iq))) (shl_w (by omega) (by omega)) ?_
        refine lv_isub hx hb dX4_decode_55 ?_
        refine g_top (y := zI (bq - (2 * gHf (G 29 iq)))) (zI_sub _ _) ?_
        refine lv_goto (tgt := 60) hx hb dX4_decode_56 (by decide) ?_
        exact g_iret hx hb hr hlocks hG ⟨(show some (Value.int (zI (bq - (2 * gHf (G 29 iq))))) = _ from congrArg (fun q9 => some (Value.int (zI q9))) (by simp only [gDec]; (repeat' split) <;> omega)), rfl, rfl⟩ dX4_decode_60
    · refine g_top (y := nI 2) (by rw [hs18]; rfl) ?_
      refine lv_tableIn (tgt := 61) (off := 43) hx hb dX4_decode_18 (by decide) (by decide) (by decide) (by decide) ?_
      refine lv_iload_n hx hb dX4_decode_61 rfl (lv_at hl 0 rfl) ?_
      refine lv_if_eq (tgt := 74) hx hb dX4_decode_62 (by decide) (fun c62 => ?_) (fun c62 => ?_)
      · skip
        exact absurd c62 (by decide)
      · skip
        refine lv_aload_n hx hb dX4_decode_65 rfl (lv_at hl 1 rfl) ?_
        refine g_callV (As := []) (rest := []) (r := (RX4, TX4, 10)) ⟨hx, hb, hml, hown, hts⟩ hE hG (cX4_signWeightC l D cy base ad n A J G iq (by first | assumption | omega) (by first | exact hP | exact hM.1 | exact hM.pa.1 | exact (hM.th _).1 | exact (hM.th _).pa.1) (by first | assumption | omega)) (cwV 0 hts gX4_decode_X4_signWeight rfl rfl rfl (by decide +kernel) ⟨Nat.le_of_ble_eq_true rfl, Nat.le_of_ble_eq_true rfl⟩) (by omega) (gw_pt cy ad n _ _ iq) rfl rfl hl.1 rfl (Nat.le_of_ble_eq_true rfl) dX4_decode_66 ⟨Nat.zero_le _, Nat.zero_le _⟩ (fun v_ A66 J66 H locs hp hG => ?_)
        obtain ⟨rfl, rfl, rfl⟩ := hp
        refine W.eq (g2 := F0 mM 69 ls [.int (zI (gHf (G 29 iq)))]) rfl ?_
        refine lv_iload_n hx hb dX4_decode_69 rfl (lv_at hl 2 rfl) ?_
        refine lv_isub hx hb dX4_decode_70 ?_
        refine g_top (y := zI ((gHf (G 29 iq)) - bq)) (zI_sub _ _) ?_
        refine lv_goto (tgt := 75) hx hb dX4_decode_71 (by decide) ?_
        exact g_iret hx hb hr hlocks hG ⟨(show some (Value.int (zI ((gHf (G 29 iq)) - bq))) = _ from congrArg (fun q9 => some (Value.int (zI q9))) (by simp only [gDec]; (repeat' split) <;> omega)), rfl, rfl⟩ dX4_decode_75
    · refine g_top (y := nI 3) (by rw [hs18]; rfl) ?_
      refine lv_tableIn (tgt := 76) (off := 58) hx hb dX4_decode_18 (by decide) (by decide) (by decide) (by decide) ?_
      refine lv_iload_n hx hb dX4_decode_76 rfl (lv_at hl 2 rfl) ?_
      refine lv_aload_n hx hb dX4_decode_77 rfl (lv_at hl 1 rfl) ?_
      refine g_callV (As := []) (rest := [.int (zI bq)]) (r := (RX4, TX4, 10)) ⟨hx, hb, hml, hown, hts⟩ hE hG (cX4_signWeightC l D cy base ad n A J G iq (by first | assumption | omega) (by first | exact hP | exact hM.1 | exact hM.pa.1 | exact (hM.th _).1 | exact (hM.th _).pa.1) (by first | assumption | omega)) (cwV 0 hts gX4_decode_X4_signWeight rfl rfl rfl (by decide +kernel) ⟨Nat.le_of_ble_eq_true rfl, Nat.le_of_ble_eq_true rfl⟩) (by omega) (gw_pt cy ad n _ _ iq) rfl rfl hl.1 rfl (Nat.le_of_ble_eq_true rfl) dX4_decode_78 ⟨Nat.zero_le _, Nat.zero_le _⟩ (fun v_ A78 J78 H locs hp hG => ?_)
      obtain ⟨rfl, rfl, rfl⟩ := hp
      refine W.eq (g2 := F0 mM 81 ls [.int (zI (gHf (G 29 iq))), .int (zI bq)]) rfl ?_
      refine lv_isub hx hb dX4_decode_81 ?_
      refine g_top (y := zI (bq - (gHf (G 29 iq)))) (zI_sub _ _) ?_
      exact g_iret hx hb hr hlocks hG ⟨(show some (Value.int (zI (bq - (gHf (G 29 iq))))) = _ from congrArg (fun q9 => some (Value.int (zI q9))) (by simp only [gDec]; (repeat' split) <;> omega)), rfl, rfl⟩ dX4_decode_82

abbrev PX4_isSentIn (ad : Nat → Nat) (A : Nat → Nat → Int32) (J : Nat → Nat → Int64) (G : Nat → Nat → Int) (iq : Nat) (cq : Int) : Option Value → (Nat → Nat → Int32) → (Nat → Nat → Int64) → Prop := fun v_ A1 J1 => (v_ = some (.int (nI 1)) ∧ A = A1 ∧ J = J1 ∧ (cq % G 31 iq = G 33 iq)) ∨ (v_ = some (.int (nI 0)) ∧ A = A1 ∧ J = J1 ∧ (¬ (cq % G 31 iq = G 33 iq)))
set_option maxHeartbeats 4000000 in
set_option maxRecDepth 100000 in
theorem cX4_isSentInC (l : Launch) (D : va_G) (cy : Nat → ClassId) (base : Nat) (ad : Nat → Nat) (n : Nat) (A : Nat → Nat → Int32) (J : Nat → Nat → Int64) (G : Nat → Nat → Int) (iq : Nat) (cq : Int) (hi : iq < n) (hP : PtR A G iq) (hT : TOk G iq) (hc : 0 ≤ cq ∧ cq < 2147483648) : gMet l yX4_isSentIn wsX4_isSentIn ({ frames := 0, cells := 0, slots := 0, locals := 0 } : Room) D cy base ad n A J [.ref (ad (33 + 2 * iq)), .int (zI cq)] (PX4_isSentIn ad A J G iq cq) := by
  refine g_ofW (cc := cX4_isSentIn) (maxL := 2) (ret := (some .boolean)) (by decide) rfl (Nat.le_of_ble_eq_true rfl) ?_
  intro pM eM sM mM aM bM methM cM H locs ls hx hb hr hts hown hlocks hml hE hG hl
  have hl : lv_has ls 2 [(0, .ref (ad (33 + 2 * iq))), (1, .int (zI cq))] := hl
  have hinX4 : ∀ w ∈ u_ws RX4 TX4 10, w ∈ wsX4_isSentIn := by decide +kernel
  have hm1 := Int.emod_nonneg cq (show G 31 iq ≠ 0 by omega)
  have hm2 := Int.emod_lt_of_pos cq (show 0 < G 31 iq by omega)
  refine lv_iload_n hx hb dX4_isSentIn_0 rfl (lv_at hl 1 rfl) ?_
  refine lv_aload_n hx hb dX4_isSentIn_1 rfl (lv_at hl 0 rfl) ?_
  refine g_get (C := RX4) (T := TX4) (NN := 10) (ci := 4) hx hb hts hinX4 hown hE hG (k := 33 + 2 * iq) (by omega) (gw_pt cy ad n _ _ iq) rfl 2 (by decide) (hts (.fieldLink RX4 18 "Commutator$Point" "period" "I") (List.mem_of_getElem? (i := 1) rfl)) rfl (v := .int (A (33 + 2 * iq) 2)) rfl dX4_isSentIn_2 ?_
  refine g_top (y := zI (G 31 iq)) (hP.2.2.1) ?_
  refine lv_iconst (v := nI 1) hx hb dX4_isSentIn_5 (by decide) ?_
  refine lv_isub hx hb dX4_isSentIn_6 ?_
  refine g_top (y := zI ((G 31 iq) - 1)) (zI_sub_in _ _) ?_
  refine lv_iand hx hb dX4_isSentIn_7 ?_
  refine g_top (y := zI (cq % G 31 iq)) (z_andp hc.1 hc.2 (by omega)) ?_
  refine lv_aload_n hx hb dX4_isSentIn_8 rfl (lv_at hl 0 rfl) ?_
  refine g_get (C := RX4) (T := TX4) (NN := 10) (ci := 4) hx hb hts hinX4 hown hE hG (k := 33 + 2 * iq) (by omega) (gw_pt cy ad n _ _ iq) rfl 4 (by decide) (hts (.fieldLink RX4 25 "Commutator$Point" "phase" "I") (List.mem_of_getElem? (i := 2) rfl)) rfl (v := .int (A (33 + 2 * iq) 4)) rfl dX4_isSentIn_9 ?_
  refine g_top (y := zI (G 33 iq)) (hP.2.2.2.2.1) ?_
  refine lv_icmp_ne (tgt := 19) hx hb dX4_isSentIn_12 (by decide) (fun c12 => ?_) (fun c12 => ?_)
  · skip
    have c12 : ¬ ((cq % G 31 iq) = (G 33 iq)) := fun z9 => c12 ((cmp_eq (zI_toInt (by omega) (by omega)) (zI_toInt (by omega) (by omega))).mpr z9)
    refine lv_iconst (v := nI 0) hx hb dX4_isSentIn_19 (by decide) ?_
    exact g_zret hx hb hr hlocks hG rfl (by first | exact Or.inl ⟨rfl, rfl, rfl, (by first | omega | rfl | assumption)⟩ | exact Or.inr (⟨rfl, rfl, rfl, (by first | omega | rfl | assumption)⟩)) dX4_isSentIn_20
  · skip
    have c12 : (cq % G 31 iq) = (G 33 iq) := (cmp_eq (zI_toInt (by omega) (by omega)) (zI_toInt (by omega) (by omega))).mp c12
    refine lv_iconst (v := nI 1) hx hb dX4_isSentIn_15 (by decide) ?_
    refine lv_goto (tgt := 20) hx hb dX4_isSentIn_16 (by decide) ?_
    exact g_zret hx hb hr hlocks hG rfl (by first | exact Or.inl ⟨rfl, rfl, rfl, (by first | omega | rfl | assumption)⟩ | exact Or.inr (⟨rfl, rfl, rfl, (by first | omega | rfl | assumption)⟩)) dX4_isSentIn_20

abbrev PX4_samplesInFrame (ad : Nat → Nat) (A : Nat → Nat → Int32) (J : Nat → Nat → Int64) (G : Nat → Nat → Int) (iq : Nat) : Option Value → (Nat → Nat → Int32) → (Nat → Nat → Int64) → Prop := fun v_ A1 J1 => (v_ = some (.int (zI (G 32 iq))) ∧ A = A1 ∧ J = J1)
set_option maxHeartbeats 4000000 in
set_option maxRecDepth 100000 in
theorem cX4_samplesInFrameC (l : Launch) (D : va_G) (cy : Nat → ClassId) (base : Nat) (ad : Nat → Nat) (n : Nat) (A : Nat → Nat → Int32) (J : Nat → Nat → Int64) (G : Nat → Nat → Int) (iq : Nat) (hi : iq < n) (hP : PtR A G iq) (hT : TOk G iq) : gMet l yX4_samplesInFrame wsX4_samplesInFrame ({ frames := 0, cells := 0, slots := 0, locals := 0 } : Room) D cy base ad n A J [.ref (ad (33 + 2 * iq))] (PX4_samplesInFrame ad A J G iq) := by
  refine g_ofW (cc := cX4_samplesInFrame) (maxL := 1) (ret := (some .int)) (by decide) rfl (Nat.le_of_ble_eq_true rfl) ?_
  intro pM eM sM mM aM bM methM cM H locs ls hx hb hr hts hown hlocks hml hE hG hl
  have hl : lv_has ls 1 [(0, .ref (ad (33 + 2 * iq)))] := hl
  have hinX4 : ∀ w ∈ u_ws RX4 TX4 10, w ∈ wsX4_samplesInFrame := by decide +kernel
  refine lv_aload_n hx hb dX4_samplesInFrame_0 rfl (lv_at hl 0 rfl) ?_
  refine g_get (C := RX4) (T := TX4) (NN := 10) (ci := 4) hx hb hts hinX4 hown hE hG (k := 33 + 2 * iq) (by omega) (gw_pt cy ad n _ _ iq) rfl 3 (by decide) (hts (.fieldLink RX4 21 "Commutator$Point" "twice" "Z") (List.mem_of_getElem? (i := 1) rfl)) rfl (v := .int (A (33 + 2 * iq) 3)) rfl dX4_samplesInFrame_1 ?_
  refine g_top (y := zI (G 32 iq - 1)) (hP.2.2.2.1) ?_
  refine lv_if_eq (tgt := 11) hx hb dX4_samplesInFrame_4 (by decide) (fun c4 => ?_) (fun c4 => ?_)
  · skip
    have c4 : (zI (G 32 iq - 1)) = nI 0 := c4
    have c4 : (G 32 iq - 1) = ((0 : Nat) : Int) := (cmp_eq (zI_toInt (by omega) (by omega)) (nI_toInt (by omega))).mp c4
    refine lv_iconst (v := nI 1) hx hb dX4_samplesInFrame_11 (by decide) ?_
    exact g_iret hx hb hr hlocks hG ⟨(show some (Value.int (zI 1)) = _ from congrArg (fun q9 => some (Value.int (zI q9))) (by omega)), rfl, rfl⟩ dX4_samplesInFrame_12
  · skip
    have c4 : ¬ ((zI (G 32 iq - 1)) = nI 0) := c4
    have c4 : ¬ ((G 32 iq - 1) = ((0 : Nat) : Int)) := fun z9 => c4 ((cmp_eq (zI_toInt (by omega) (by omega)) (nI_toInt (by omega))).mpr z9)
    refine lv_iconst (v := nI 2) hx hb dX4_samplesInFrame_7 (by decide) ?_
    refine lv_goto (tgt := 12) hx hb dX4_samplesInFrame_8 (by decide) ?_
    exact g_iret hx hb hr hlocks hG ⟨(show some (Value.int (zI 2)) = _ from congrArg (fun q9 => some (Value.int (zI q9))) (by omega)), rfl, rfl⟩ dX4_samplesInFrame_12

abbrev PX4_firstBit (ad : Nat → Nat) (A : Nat → Nat → Int32) (J : Nat → Nat → Int64) (G : Nat → Nat → Int) (iq : Nat) (sq : Int) : Option Value → (Nat → Nat → Int32) → (Nat → Nat → Int64) → Prop := fun v_ A1 J1 => (v_ = some (.int (zI (mAt G iq sq))) ∧ A = A1 ∧ J = J1)
set_option maxHeartbeats 4000000 in
set_option maxRecDepth 100000 in
theorem cX4_firstBitC (l : Launch) (D : va_G) (cy : Nat → ClassId) (base : Nat) (ad : Nat → Nat) (n : Nat) (A : Nat → Nat → Int32) (J : Nat → Nat → Int64) (G : Nat → Nat → Int) (iq : Nat) (sq : Int) (hi : iq < n) (hP : PtR A G iq) (hT : TOk G iq) (hs : 0 ≤ sq ∧ sq ≤ 1) : gMet l yX4_firstBit wsX4_firstBit ({ frames := 0, cells := 0, slots := 0, locals := 0 } : Room) D cy base ad n A J [.ref (ad (33 + 2 * iq)), .int (zI sq)] (PX4_firstBit ad A J G iq sq) := by
  refine g_ofW (cc := cX4_firstBit) (maxL := 2) (ret := (some .int)) (by decide) rfl (Nat.le_of_ble_eq_true rfl) ?_
  intro pM eM sM mM aM bM methM cM H locs ls hx hb hr hts hown hlocks hml hE hG hl
  have hl : lv_has ls 2 [(0, .ref (ad (33 + 2 * iq))), (1, .int (zI sq))] := hl
  have hinX4 : ∀ w ∈ u_ws RX4 TX4 10, w ∈ wsX4_firstBit := by decide +kernel
  refine lv_bipush (v := nI 16) hx hb dX4_firstBit_0 (by decide) ?_
  refine lv_aload_n hx hb dX4_firstBit_2 rfl (lv_at hl 0 rfl) ?_
  refine g_get (C := RX4) (T := TX4) (NN := 10) (ci := 4) hx hb hts hinX4 hown hE hG (k := 33 + 2 * iq) (by omega) (gw_pt cy ad n _ _ iq) rfl 5 (by decide) (hts (.fieldLink RX4 28 "Commutator$Point" "offset" "I") (List.mem_of_getElem? (i := 1) rfl)) rfl (v := .int (A (33 + 2 * iq) 5)) rfl dX4_firstBit_3 ?_
  refine g_top (y := zI (G 34 iq)) (hP.2.2.2.2.2) ?_
  refine lv_iadd hx hb dX4_firstBit_6 ?_
  refine g_top (y := zI (16 + (G 34 iq))) (zI_add_ni _ _) ?_
  refine lv_iload_n hx hb dX4_firstBit_7 rfl (lv_at hl 1 rfl) ?_
  refine lv_bipush (v := nI 24) hx hb dX4_firstBit_8 (by decide) ?_
  refine lv_imul hx hb dX4_firstBit_10 ?_
  refine g_top (y := zI (sq * 24)) (zI_mul_in _ _) ?_
  refine lv_iadd hx hb dX4_firstBit_11 ?_
  refine g_top (y := zI ((16 + (G 34 iq)) + (sq * 24))) (zI_add _ _) ?_
  exact g_iret hx hb hr hlocks hG ⟨congrArg (fun q9 => some (Value.int (zI q9))) (by unfold mAt; omega), rfl, rfl⟩ dX4_firstBit_12

abbrev PX4_shift (ad : Nat → Nat) (A : Nat → Nat → Int32) (J : Nat → Nat → Int64) (G : Nat → Nat → Int) (iq : Nat) (sq : Int) : Option Value → (Nat → Nat → Int32) → (Nat → Nat → Int64) → Prop := fun v_ A1 J1 => (v_ = some (.int (zI (64 - mAt G iq sq - G 29 iq))) ∧ A = A1 ∧ J = J1)
set_option maxHeartbeats 4000000 in
set_option maxRecDepth 100000 in
theorem cX4_shiftC (l : Launch) (D : va_G) (cy : Nat → ClassId) (base : Nat) (ad : Nat → Nat) (n : Nat) (A : Nat → Nat → Int32) (J : Nat → Nat → Int64) (G : Nat → Nat → Int) (iq : Nat) (sq : Int) (hi : iq < n) (hP : PtR A G iq) (hT : TOk G iq) (hs : 0 ≤ sq ∧ sq ≤ 1) : gMet l yX4_shift wsX4_shift ({ frames := 1, cells := 0, slots := 0, locals := 21 } : Room) D cy base ad n A J [.ref (ad (33 + 2 * iq)), .int (zI sq)] (PX4_shift ad A J G iq sq) := by
  refine g_ofW (cc := cX4_shift) (maxL := 2) (ret := (some .int)) (by decide) rfl (Nat.le_of_ble_eq_true rfl) ?_
  intro pM eM sM mM aM bM methM cM H locs ls hx hb hr hts hown hlocks hml hE hG hl
  have hl : lv_has ls 2 [(0, .ref (ad (33 + 2 * iq))), (1, .int (zI sq))] := hl
  have hinX4 : ∀ w ∈ u_ws RX4 TX4 10, w ∈ wsX4_shift := by decide +kernel
  refine lv_bipush (v := nI 64) hx hb dX4_shift_0 (by decide) ?_
  refine lv_aload_n hx hb dX4_shift_2 rfl (lv_at hl 0 rfl) ?_
  refine lv_iload_n hx hb dX4_shift_3 rfl (lv_at hl 1 rfl) ?_
  refine g_callV (As := [.int (zI sq)]) (rest := [.int (nI 64)]) (r := (RX4, TX4, 10)) ⟨hx, hb, hml, hown, hts⟩ hE hG (cX4_firstBitC l D cy base ad n A J G iq sq (by first | assumption | omega) (by first | exact hP | exact hM.1 | exact hM.pa.1 | exact (hM.th _).1 | exact (hM.th _).pa.1) (by first | assumption | omega) (by first | assumption | omega)) (cwV 1 hts gX4_shift_X4_firstBit rfl rfl rfl (by decide +kernel) ⟨Nat.le_of_ble_eq_true rfl, Nat.le_of_ble_eq_true rfl⟩) (by omega) (gw_pt cy ad n _ _ iq) rfl rfl hl.1 rfl (Nat.le_of_ble_eq_true rfl) dX4_shift_4 ⟨Nat.zero_le _, Nat.zero_le _⟩ (fun v_ A4 J4 H locs hp hG => ?_)
  obtain ⟨rfl, rfl, rfl⟩ := hp
  refine W.eq (g2 := F0 mM 7 ls [.int (zI (mAt G iq sq)), .int (nI 64)]) rfl ?_
  refine lv_isub hx hb dX4_shift_7 ?_
  refine g_top (y := zI (64 - (mAt G iq sq))) (zI_sub_ni _ _) ?_
  refine lv_aload_n hx hb dX4_shift_8 rfl (lv_at hl 0 rfl) ?_
  refine g_get (C := RX4) (T := TX4) (NN := 10) (ci := 4) hx hb hts hinX4 hown hE hG (k := 33 + 2 * iq) (by omega) (gw_pt cy ad n _ _ iq) rfl 0 (by decide) (hts (.fieldLink RX4 9 "Commutator$Point" "width" "I") (List.mem_of_getElem? (i := 1) rfl)) rfl (v := .int (A (33 + 2 * iq) 0)) rfl dX4_shift_9 ?_
  refine g_top (y := zI (G 29 iq)) (hP.1) ?_
  refine lv_isub hx hb dX4_shift_12 ?_
  refine g_top (y := zI ((64 - (mAt G iq sq)) - (G 29 iq))) (zI_sub _ _) ?_
  exact g_iret hx hb hr hlocks hG ⟨rfl, rfl, rfl⟩ dX4_shift_13

abbrev PX4_noteMissing (ad : Nat → Nat) (A : Nat → Nat → Int32) (J : Nat → Nat → Int64) (G : Nat → Nat → Int) (iq : Nat) (mq : Int) : Option Value → (Nat → Nat → Int32) → (Nat → Nat → Int64) → Prop := fun v_ A1 J1 => (v_ = none ∧ gu A (33 + 2 * iq) 9 (zI (mq + G 32 iq)) = A1 ∧ J = J1)
set_option maxHeartbeats 4000000 in
set_option maxRecDepth 100000 in
theorem cX4_noteMissingC (l : Launch) (D : va_G) (cy : Nat → ClassId) (base : Nat) (ad : Nat → Nat) (n : Nat) (A : Nat → Nat → Int32) (J : Nat → Nat → Int64) (G : Nat → Nat → Int) (iq : Nat) (mq : Int) (hi : iq < n) (hP : PtR A G iq) (hT : TOk G iq) (hm : A (33 + 2 * iq) 9 = zI mq) : gMet l yX4_noteMissing wsX4_noteMissing ({ frames := 1, cells := 0, slots := 0, locals := 20 } : Room) D cy base ad n A J [.ref (ad (33 + 2 * iq))] (PX4_noteMissing ad A J G iq mq) := by
  refine g_ofW (cc := cX4_noteMissing) (maxL := 1) (ret := none) (by decide) rfl (Nat.le_of_ble_eq_true rfl) ?_
  intro pM eM sM mM aM bM methM cM H locs ls hx hb hr hts hown hlocks hml hE hG hl
  have hl : lv_has ls 1 [(0, .ref (ad (33 + 2 * iq)))] := hl
  have hinX4 : ∀ w ∈ u_ws RX4 TX4 10, w ∈ wsX4_noteMissing := by decide +kernel
  refine lv_aload_n hx hb dX4_noteMissing_0 rfl (lv_at hl 0 rfl) ?_
  refine lv_dup hx hb dX4_noteMissing_1 rfl ?_
  refine g_get (C := RX4) (T := TX4) (NN := 10) (ci := 4) hx hb hts hinX4 hown hE hG (k := 33 + 2 * iq) (by omega) (gw_pt cy ad n _ _ iq) rfl 9 (by decide) (hts (.fieldLink RX4 62 "Commutator$Point" "missingCount" "I") (List.mem_of_getElem? (i := 1) rfl)) rfl (v := .int (A (33 + 2 * iq) 9)) rfl dX4_noteMissing_2 ?_
  refine g_top (y := zI mq) (hm) ?_
  refine lv_aload_n hx hb dX4_noteMissing_5 rfl (lv_at hl 0 rfl) ?_
  refine g_callV (As := []) (rest := [.int (zI mq), .ref (ad (33 + 2 * iq))]) (r := (RX4, TX4, 10)) ⟨hx, hb, hml, hown, hts⟩ hE hG (cX4_samplesInFrameC l D cy base ad n A J G iq (by first | assumption | omega) (by first | exact hP | exact hM.1 | exact hM.pa.1 | exact (hM.th _).1 | exact (hM.th _).pa.1) (by first | assumption | omega)) (cwV 0 hts gX4_noteMissing_X4_samplesInFrame rfl rfl rfl (by decide +kernel) ⟨Nat.le_of_ble_eq_true rfl, Nat.le_of_ble_eq_true rfl⟩) (by omega) (gw_pt cy ad n _ _ iq) rfl rfl hl.1 rfl (Nat.le_of_ble_eq_true rfl) dX4_noteMissing_6 ⟨Nat.zero_le _, Nat.zero_le _⟩ (fun v_ A6 J6 H locs hp hG => ?_)
  obtain ⟨rfl, rfl, rfl⟩ := hp
  refine W.eq (g2 := F0 mM 9 ls [.int (zI (G 32 iq)), .int (zI mq), .ref (ad (33 + 2 * iq))]) rfl ?_
  refine lv_iadd hx hb dX4_noteMissing_9 ?_
  refine g_top (y := zI (mq + (G 32 iq))) (zI_add _ _) ?_
  refine g_puti (C := RX4) (T := TX4) (NN := 10) (ci := 4) hx hb hts hinX4 tyX4 tyX4_ok nmX4 hown hE hG (k := 33 + 2 * iq) (by omega) (gw_pt cy ad n _ _ iq) rfl 9 (by decide) (hts (.fieldLink RX4 62 "Commutator$Point" "missingCount" "I") (List.mem_of_getElem? (i := 1) rfl)) rfl rfl (ty := .int) (v := zI (mq + (G 32 iq))) (by decide +kernel) rfl rfl (Nat.le_of_ble_eq_true rfl) ((gC_pt cy ad n iq _ _).trans rfl) dX4_noteMissing_10 (fun H locs hG => ?_)
  exact g_vret hx hb hr hlocks hG ⟨rfl, rfl, rfl⟩ dX4_noteMissing_13
