abbrev PX9_latestOf (ad : Nat → Nat) (A : Nat → Nat → Int32) (J : Nat → Nat → Int64) (G : Nat → Nat → Int) (iq : Nat) : Option Value → (Nat → Nat → Int32) → (Nat → Nat → Int64) → Prop := fun v_ A1 J1 => (v_ = some (.ref (ad (33 + 2 * iq + 1))) ∧ A = A1 ∧ J = J1 ∧ (G 41 iq ≠ 0))
abbrev EX9_latestOf (ad : Nat → Nat) (A : Nat → Nat → Int32) (J : Nat → Nat → Int64) (G : Nat → Nat → Int) (iq : Nat) : String → (Nat → Nat → Int32) → (Nat → Nat → Int64) → Prop := fun e_ A1 J1 => (e_ = "java/util/NoSuchElementException" ∧ A = A1 ∧ J = J1 ∧ (G 41 iq = 0))
set_option maxHeartbeats 4000000 in
set_option maxRecDepth 100000 in
theorem cX9_latestOfC (l : Launch) (D : va_G) (cy : Nat → ClassId) (base : Nat) (ad : Nat → Nat) (n : Nat) (A : Nat → Nat → Int32) (J : Nat → Nat → Int64) (G : Nat → Nat → Int) (iq : Nat) (hst : l.stackTraces = false) (hi : iq < n) (hF : PtF A G iq) : gMetX l yX9_latestOf wsX9_latestOf ({ frames := 6, cells := 1, slots := 6, locals := 100 } : Room) D cy base ad n A J [.ref (ad (33 + 2 * iq))] (PX9_latestOf ad A J G iq) (EX9_latestOf ad A J G iq) 1 6 := by
  refine gx_ofW (cc := cX9_latestOf) (maxL := 1) (ret := (some (.object "Commutator$Reading"))) (by decide) rfl (Nat.le_of_ble_eq_true rfl) ?_
  intro pM eM sM mM aM bM methM cM H locs ls hx hb hr hts hown hlocks hml hout hE hG hl
  have hl : lv_has ls 1 [(0, .ref (ad (33 + 2 * iq)))] := hl
  have hinX4 : ∀ w ∈ u_ws RX4 TX4 10, w ∈ wsX9_latestOf := by decide +kernel
  have hinX6 : ∀ w ∈ u_ws RX6 TX6 3, w ∈ wsX9_latestOf := by decide +kernel
  have hkn1 := gKn_1 G iq
  refine lv_aload_n hx hb dX9_latestOf_0 rfl (lv_at hl 0 rfl) ?_
  refine g_getN (C := RX4) (T := TX4) (NN := 10) (ci := 4) hx hb hts hinX4 hown hE hG (k := 33 + 2 * iq) (by omega) (gw_pt cy ad n _ _ iq) rfl 7 (by decide) 35 rfl rfl (v := .ref (ad (33 + 2 * iq + 1))) rfl dX9_latestOf_1 ?_
  refine g_getN (C := RX6) (T := TX6) (NN := 3) (ci := 6) hx hb hts hinX6 hown hE hG (k := 33 + 2 * iq + 1) (by omega) (gw_rp cy ad n _ _ iq) rfl 0 (by decide) 19 rfl rfl (v := .int (A (33 + 2 * iq + 1) 0)) rfl dX9_latestOf_4 ?_
  refine g_top (y := nI (gKn G iq)) (PtF_kn hF) ?_
  refine lv_if_ne (tgt := 18) hx hb dX9_latestOf_7 (by decide) (fun c7 => ?_) (fun c7 => ?_)
  · skip
    have c7 : ¬ ((nI (gKn G iq)) = nI 0) := c7
    have c7 : ¬ ((gKn G iq) = 0) := fun z9 => c7 ((nI_eq (by omega) (by omega)).mpr z9)
    refine lv_aload_n hx hb dX9_latestOf_18 rfl (lv_at hl 0 rfl) ?_
    refine g_getN (C := RX4) (T := TX4) (NN := 10) (ci := 4) hx hb hts hinX4 hown hE hG (k := 33 + 2 * iq) (by omega) (gw_pt cy ad n _ _ iq) rfl 7 (by decide) 35 rfl rfl (v := .ref (ad (33 + 2 * iq + 1))) rfl dX9_latestOf_19 ?_
    exact gx_aret hx hb hr hlocks (Or.inr ⟨_, rfl⟩) hG (Nat.le_of_ble_eq_true rfl) (Nat.le_of_ble_eq_true rfl) ⟨rfl, rfl, rfl, fun h9 => by have := hkn1.2.mpr h9; omega⟩ dX9_latestOf_22
  · skip
    have c7 : (nI (gKn G iq)) = nI 0 := c7
    have c7 : (gKn G iq) = 0 := (nI_eq (by omega) (by omega)).mp c7
    exact gx_throw (cls := "java/util/NoSuchElementException") (ik := 157) (ic := 159) hx hb hst hown (by decide +kernel) (hts (.classLink RX9 157 "java/util/NoSuchElementException") (List.mem_of_getElem? (i := 1) rfl)) (hts (.initialized "java/util/NoSuchElementException") (List.mem_of_getElem? (i := 2) rfl)) (vxg_NS (fun w9 h9 => hts w9 (List.mem_cons_of_mem _ (List.mem_append_right _ h9)))) vxo_NS hE hG (hl.1.trans hml.symm) dX9_latestOf_10 dX9_latestOf_13 dX9_latestOf_14 dX9_latestOf_17 hout (Nat.le_of_ble_eq_true rfl) (Nat.le_of_ble_eq_true rfl) (Nat.le_of_ble_eq_true rfl) (Nat.le_of_ble_eq_true rfl) hlocks ⟨rfl, rfl, rfl, (hkn1.2.mp (by omega))⟩ (Nat.le_of_ble_eq_true rfl) (Nat.le_of_ble_eq_true rfl)

abbrev PX9_value (ad : Nat → Nat) (A : Nat → Nat → Int32) (J : Nat → Nat → Int64) (G : Nat → Nat → Int) (nq : Nat) (zq : Int) : Option Value → (Nat → Nat → Int32) → (Nat → Nat → Int64) → Prop := fun v_ A1 J1 => (∃ (iq : Nat), v_ = some (.int (zI (G 39 iq))) ∧ A = A1 ∧ J = J1 ∧ (iq < nq ∧ zq = (iq : Int) ∧ G 41 iq ≠ 0))
abbrev EX9_value (ad : Nat → Nat) (A : Nat → Nat → Int32) (J : Nat → Nat → Int64) (G : Nat → Nat → Int) (nq : Nat) (zq : Int) : String → (Nat → Nat → Int32) → (Nat → Nat → Int64) → Prop := fun e_ A1 J1 => (e_ = "java/lang/IndexOutOfBoundsException" ∧ A = A1 ∧ J = J1 ∧ (¬ (0 ≤ zq ∧ zq < (nq : Int)))) ∨ (e_ = "java/util/NoSuchElementException" ∧ A = A1 ∧ J = J1 ∧ (∃ iq : Nat, iq < nq ∧ zq = (iq : Int) ∧ G 41 iq = 0))
set_option maxHeartbeats 4000000 in
set_option maxRecDepth 100000 in
theorem cX9_valueC (l : Launch) (D : va_G) (cy : Nat → ClassId) (base : Nat) (ad : Nat → Nat) (n : Nat) (A : Nat → Nat → Int32) (J : Nat → Nat → Int64) (G : Nat → Nat → Int) (nq : Nat) (zq : Int) (hst : l.stackTraces = false) (hnq : nq = n) (hC : CAll nq A J G) (hzq : -2147483648 ≤ zq ∧ zq < 2147483648) : gMetX l yX9_value wsX9_value ({ frames := 7, cells := 2, slots := 12, locals := 122 } : Room) D cy base ad n A J [.ref (ad 0), .int (zI zq)] (PX9_value ad A J G nq zq) (EX9_value ad A J G nq zq) 2 12 := by
  refine gx_ofW (cc := cX9_value) (maxL := 2) (ret := (some .int)) (by decide) rfl (Nat.le_of_ble_eq_true rfl) ?_
  intro pM eM sM mM aM bM methM cM H locs ls hx hb hr hts hown hlocks hml hout hE hG hl
  have hl : lv_has ls 2 [(0, .ref (ad 0)), (1, .int (zI zq))] := hl
  have hinX4 : ∀ w ∈ u_ws RX4 TX4 10, w ∈ wsX9_value := by decide +kernel
  have hinX5 : ∀ w ∈ u_ws RX5 TX5 3, w ∈ wsX9_value := by decide +kernel
  have hinX6 : ∀ w ∈ u_ws RX6 TX6 3, w ∈ wsX9_value := by decide +kernel
  have hinX9 : ∀ w ∈ u_ws RX9 TX9 6, w ∈ wsX9_value := by decide +kernel
  have hC0 := hC
  rw [hnq] at hC
  obtain ⟨hct, hn, hT, hFs, hpr, hz, hU, hD, hso, hse, hli, hsy, hde, hcd, hok, hdv, hdr, hsn, hol, hln⟩ := id hC
  refine lv_aload_n hx hb dX9_value_0 rfl (lv_at hl 0 rfl) ?_
  refine lv_iload_n hx hb dX9_value_1 rfl (lv_at hl 1 rfl) ?_
  refine gx_callV (As := [.int (zI zq)]) (rest := []) (r := (RX9, TX9, 6)) ⟨hx, hb, hml, hown, hts⟩ hE hG (cX9_existingPointC l D cy base ad n A J n zq (by first | assumption | omega) (by first | assumption | omega) (by first | assumption | omega) (by first | assumption | omega)) (cwV 1 hts gX9_value_X9_existingPoint rfl rfl rfl (by decide +kernel) ⟨Nat.le_of_ble_eq_true rfl, Nat.le_of_ble_eq_true rfl⟩) (by omega) rfl rfl rfl hl.1 rfl (Nat.le_of_ble_eq_true rfl) dX9_value_2 ⟨(Nat.le_of_ble_eq_true rfl), (Nat.le_of_ble_eq_true rfl)⟩ hout hlocks (fun e_ A_ J_ hz => by
    rcases hz with ⟨he_, hA_, hJ_, hf0_⟩
    · exact Or.inl ⟨he_, hA_, hJ_, (by first | assumption | omega)⟩) (Nat.le_of_ble_eq_true rfl) (Nat.le_of_ble_eq_true rfl) (fun v_ A2 J2 H locs hp hG => ?_)
  obtain ⟨iq_2, rfl, rfl, rfl, hiq_2⟩ := hp
  refine W.eq (g2 := F0 mM 5 ls [.ref (ad (33 + 2 * iq_2))]) rfl ?_
  have hF := hFs iq_2 (by omega)
  refine gx_callS (As := [.ref (ad (33 + 2 * iq_2))]) (rest := []) ⟨hx, hb, hml, hown, hts⟩ hE hG (cX9_latestOfC l D cy base ad n A J G iq_2 (by first | assumption | omega) (by first | assumption | omega) hF) (va_cwS 1 hts gX9_value_X9_latestOf rfl rfl rfl (by decide +kernel) ⟨Nat.le_of_ble_eq_true rfl, Nat.le_of_ble_eq_true rfl⟩) rfl hl.1 rfl (Nat.le_of_ble_eq_true rfl) dX9_value_5 ⟨(Nat.le_of_ble_eq_true rfl), (Nat.le_of_ble_eq_true rfl)⟩ hout hlocks (fun e_ A_ J_ hz => by
    rcases hz with ⟨he_, hA_, hJ_, hf0_⟩
    · exact Or.inr ⟨he_, hA_, hJ_, ⟨iq_2, by omega, by omega, hf0_⟩⟩) (Nat.le_of_ble_eq_true rfl) (Nat.le_of_ble_eq_true rfl) (fun v_ A5 J5 H locs hp hG => ?_)
  obtain ⟨rfl, rfl, rfl, hkn_5⟩ := hp
  refine W.eq (g2 := F0 mM 8 ls [.ref (ad (33 + 2 * iq_2 + 1))]) rfl ?_
  refine g_getN (C := RX6) (T := TX6) (NN := 3) (ci := 6) hx hb hts hinX6 hown hE hG (k := 33 + 2 * iq_2 + 1) (by omega) (gw_rp cy ad n _ _ iq_2) rfl 1 (by decide) 21 rfl rfl (v := .int (A (33 + 2 * iq_2 + 1) 1)) rfl dX9_value_8 ?_
  refine g_top (y := zI (G 39 iq_2)) ((hF.2.2.2.2.2 hkn_5).2.1) ?_
  exact gx_iret hx hb hr hlocks hG (Nat.le_of_ble_eq_true rfl) (Nat.le_of_ble_eq_true rfl) ⟨_, rfl, rfl, rfl, by omega, by omega, hkn_5⟩ dX9_value_11

abbrev PX9_time (ad : Nat → Nat) (A : Nat → Nat → Int32) (J : Nat → Nat → Int64) (G : Nat → Nat → Int) (nq : Nat) (zq : Int) : Option Value → (Nat → Nat → Int32) → (Nat → Nat → Int64) → Prop := fun v_ A1 J1 => (∃ (iq : Nat), v_ = some (.int (zI (G 40 iq))) ∧ A = A1 ∧ J = J1 ∧ (iq < nq ∧ zq = (iq : Int) ∧ G 41 iq ≠ 0))
abbrev EX9_time (ad : Nat → Nat) (A : Nat → Nat → Int32) (J : Nat → Nat → Int64) (G : Nat → Nat → Int) (nq : Nat) (zq : Int) : String → (Nat → Nat → Int32) → (Nat → Nat → Int64) → Prop := fun e_ A1 J1 => (e_ = "java/lang/IndexOutOfBoundsException" ∧ A = A1 ∧ J = J1 ∧ (¬ (0 ≤ zq ∧ zq < (nq : Int)))) ∨ (e_ = "java/util/NoSuchElementException" ∧ A = A1 ∧ J = J1 ∧ (∃ iq : Nat, iq < nq ∧ zq = (iq : Int) ∧ G 41 iq = 0))
set_option maxHeartbeats 4000000 in
set_option maxRecDepth 100000 in
theorem cX9_timeC (l : Launch) (D : va_G) (cy : Nat → ClassId) (base : Nat) (ad : Nat → Nat) (n : Nat) (A : Nat → Nat → Int32) (J : Nat → Nat → Int64) (G : Nat → Nat → Int) (nq : Nat) (zq : Int) (hst : l.stackTraces = false) (hnq : nq = n) (hC : CAll nq A J G) (hzq : -2147483648 ≤ zq ∧ zq < 2147483648) : gMetX l yX9_time wsX9_time ({ frames := 7, cells := 2, slots := 12, locals := 122 } : Room) D cy base ad n A J [.ref (ad 0), .int (zI zq)] (PX9_time ad A J G nq zq) (EX9_time ad A J G nq zq) 2 12 := by
  refine gx_ofW (cc := cX9_time) (maxL := 2) (ret := (some .int)) (by decide) rfl (Nat.le_of_ble_eq_true rfl) ?_
  intro pM eM sM mM aM bM methM cM H locs ls hx hb hr hts hown hlocks hml hout hE hG hl
  have hl : lv_has ls 2 [(0, .ref (ad 0)), (1, .int (zI zq))] := hl
  have hinX4 : ∀ w ∈ u_ws RX4 TX4 10, w ∈ wsX9_time := by decide +kernel
  have hinX5 : ∀ w ∈ u_ws RX5 TX5 3, w ∈ wsX9_time := by decide +kernel
  have hinX6 : ∀ w ∈ u_ws RX6 TX6 3, w ∈ wsX9_time := by decide +kernel
  have hinX9 : ∀ w ∈ u_ws RX9 TX9 6, w ∈ wsX9_time := by decide +kernel
  have hC0 := hC
  rw [hnq] at hC
  obtain ⟨hct, hn, hT, hFs, hpr, hz, hU, hD, hso, hse, hli, hsy, hde, hcd, hok, hdv, hdr, hsn, hol, hln⟩ := id hC
  refine lv_aload_n hx hb dX9_time_0 rfl (lv_at hl 0 rfl) ?_
  refine lv_iload_n hx hb dX9_time_1 rfl (lv_at hl 1 rfl) ?_
  refine gx_callV (As := [.int (zI zq)]) (rest := []) (r := (RX9, TX9, 6)) ⟨hx, hb, hml, hown, hts⟩ hE hG (cX9_existingPointC l D cy base ad n A J n zq (by first | assumption | omega) (by first | assumption | omega) (by first | assumption | omega) (by first | assumption | omega)) (cwV 1 hts gX9_time_X9_existingPoint rfl rfl rfl (by decide +kernel) ⟨Nat.le_of_ble_eq_true rfl, Nat.le_of_ble_eq_true rfl⟩) (by omega) rfl rfl rfl hl.1 rfl (Nat.le_of_ble_eq_true rfl) dX9_time_2 ⟨(Nat.le_of_ble_eq_true rfl), (Nat.le_of_ble_eq_true rfl)⟩ hout hlocks (fun e_ A_ J_ hz => by
    rcases hz with ⟨he_, hA_, hJ_, hf0_⟩
    · exact Or.inl ⟨he_, hA_, hJ_, (by first | assumption | omega)⟩) (Nat.le_of_ble_eq_true rfl) (Nat.le_of_ble_eq_true rfl) (fun v_ A2 J2 H locs hp hG => ?_)
  obtain ⟨iq_2, rfl, rfl, rfl, hiq_2⟩ := hp
  refine W.eq (g2 := F0 mM 5 ls [.ref (ad (33 + 2 * iq_2))]) rfl ?_
  have hF := hFs iq_2 (by omega)
  refine gx_callS (As := [.ref (ad (33 + 2 * iq_2))]) (rest := []) ⟨hx, hb, hml, hown, hts⟩ hE hG (cX9_latestOfC l D cy base ad n A J G iq_2 (by first | assumption | omega) (by first | assumption | omega) hF) (va_cwS 1 hts gX9_time_X9_latestOf rfl rfl rfl (by decide +kernel) ⟨Nat.le_of_ble_eq_true rfl, Nat.le_of_ble_eq_true rfl⟩) rfl hl.1 rfl (Nat.le_of_ble_eq_true rfl) dX9_time_5 ⟨(Nat.le_of_ble_eq_true rfl), (Nat.le_of_ble_eq_true rfl)⟩ hout hlocks (fun e_ A_ J_ hz => by
    rcases hz with ⟨he_, hA_, hJ_, hf0_⟩
    · exact Or.inr ⟨he_, hA_, hJ_, ⟨iq_2, by omega, by omega, hf0_⟩⟩) (Nat.le_of_ble_eq_true rfl) (Nat.le_of_ble_eq_true rfl) (fun v_ A5 J5 H locs hp hG => ?_)
  obtain ⟨rfl, rfl, rfl, hkn_5⟩ := hp
  refine W.eq (g2 := F0 mM 8 ls [.ref (ad (33 + 2 * iq_2 + 1))]) rfl ?_
  refine g_getN (C := RX6) (T := TX6) (NN := 3) (ci := 6) hx hb hts hinX6 hown hE hG (k := 33 + 2 * iq_2 + 1) (by omega) (gw_rp cy ad n _ _ iq_2) rfl 2 (by decide) 23 rfl rfl (v := .int (A (33 + 2 * iq_2 + 1) 2)) rfl dX9_time_8 ?_
  refine g_top (y := zI (G 40 iq_2)) ((hF.2.2.2.2.2 hkn_5).2.2) ?_
  exact gx_iret hx hb hr hlocks hG (Nat.le_of_ble_eq_true rfl) (Nat.le_of_ble_eq_true rfl) ⟨_, rfl, rfl, rfl, by omega, by omega, hkn_5⟩ dX9_time_11

abbrev PX9_sent (ad : Nat → Nat) (A : Nat → Nat → Int32) (J : Nat → Nat → Int64) (G : Nat → Nat → Int) (nq : Nat) : Option Value → (Nat → Nat → Int32) → (Nat → Nat → Int64) → Prop := fun v_ A1 J1 => (v_ = some (.int (zI (G 28 9))) ∧ A = A1 ∧ J = J1)
set_option maxHeartbeats 4000000 in
set_option maxRecDepth 100000 in
theorem cX9_sentC (l : Launch) (D : va_G) (cy : Nat → ClassId) (base : Nat) (ad : Nat → Nat) (n : Nat) (A : Nat → Nat → Int32) (J : Nat → Nat → Int64) (G : Nat → Nat → Int) (nq : Nat) (hnq : nq = n) (hC : CAll nq A J G) : gMet l yX9_sent wsX9_sent ({ frames := 0, cells := 0, slots := 0, locals := 0 } : Room) D cy base ad n A J [.ref (ad 0)] (PX9_sent ad A J G nq) := by
  refine g_ofW (cc := cX9_sent) (maxL := 1) (ret := (some .int)) (by decide) rfl (Nat.le_of_ble_eq_true rfl) ?_
  intro pM eM sM mM aM bM methM cM H locs ls hx hb hr hts hown hlocks hml hE hG hl
  have hl : lv_has ls 1 [(0, .ref (ad 0))] := hl
  have hinX7 : ∀ w ∈ u_ws RX7 TX7 2, w ∈ wsX9_sent := by decide +kernel
  have hinX9 : ∀ w ∈ u_ws RX9 TX9 6, w ∈ wsX9_sent := by decide +kernel
  have hC0 := hC
  rw [hnq] at hC
  obtain ⟨hct, hn, hT, hFs, hpr, hz, hU, hD, hso, hse, hli, hsy, hde, hcd, hok, hdv, hdr, hsn, hol, hln⟩ := id hC
  refine lv_aload_n hx hb dX9_sent_0 rfl (lv_at hl 0 rfl) ?_
  refine g_get (C := RX9) (T := TX9) (NN := 6) (ci := 9) hx hb hts hinX9 hown hE hG (k := 0) (by omega) rfl rfl 2 (by decide) (hts (.fieldLink RX9 26 "Commutator" "sender" "LCommutator$Sender;") (List.mem_of_getElem? (i := 1) rfl)) rfl (v := .ref (ad 6)) rfl dX9_sent_1 ?_
  refine g_getN (C := RX7) (T := TX7) (NN := 2) (ci := 7) hx hb hts hinX7 hown hE hG (k := 6) (by omega) rfl rfl 0 (by decide) 6 rfl rfl (v := .int (A 6 0)) rfl dX9_sent_4 ?_
  refine g_top (y := zI (G 28 9)) (hse.1) ?_
  exact g_iret hx hb hr hlocks hG ⟨rfl, rfl, rfl⟩ dX9_sent_7

abbrev PX9_state (ad : Nat → Nat) (A : Nat → Nat → Int32) (J : Nat → Nat → Int64) (G : Nat → Nat → Int) (nq : Nat) : Option Value → (Nat → Nat → Int32) → (Nat → Nat → Int64) → Prop := fun v_ A1 J1 => (v_ = some (.int (zI (G 28 14))) ∧ A = A1 ∧ J = J1)
set_option maxHeartbeats 4000000 in
set_option maxRecDepth 100000 in
theorem cX9_stateC (l : Launch) (D : va_G) (cy : Nat → ClassId) (base : Nat) (ad : Nat → Nat) (n : Nat) (A : Nat → Nat → Int32) (J : Nat → Nat → Int64) (G : Nat → Nat → Int) (nq : Nat) (hnq : nq = n) (hC : CAll nq A J G) : gMet l yX9_state wsX9_state ({ frames := 0, cells := 0, slots := 0, locals := 0 } : Room) D cy base ad n A J [.ref (ad 0)] (PX9_state ad A J G nq) := by
  refine g_ofW (cc := cX9_state) (maxL := 1) (ret := (some .int)) (by decide) rfl (Nat.le_of_ble_eq_true rfl) ?_
  intro pM eM sM mM aM bM methM cM H locs ls hx hb hr hts hown hlocks hml hE hG hl
  have hl : lv_has ls 1 [(0, .ref (ad 0))] := hl
  have hinX8 : ∀ w ∈ u_ws RX8 TX8 7, w ∈ wsX9_state := by decide +kernel
  have hinX9 : ∀ w ∈ u_ws RX9 TX9 6, w ∈ wsX9_state := by decide +kernel
  have hC0 := hC
  rw [hnq] at hC
  obtain ⟨hct, hn, hT, hFs, hpr, hz, hU, hD, hso, hse, hli, hsy, hde, hcd, hok, hdv, hdr, hsn, hol, hln⟩ := id hC
  refine lv_aload_n hx hb dX9_state_0 rfl (lv_at hl 0 rfl) ?_
  refine g_get (C := RX9) (T := TX9) (NN := 6) (ci := 9) hx hb hts hinX9 hown hE hG (k := 0) (by omega) rfl rfl 3 (by decide) (hts (.fieldLink RX9 33 "Commutator" "synchroniser" "LCommutator$Synchroniser;") (List.mem_of_getElem? (i := 1) rfl)) rfl (v := .ref (ad 7)) rfl dX9_state_1 ?_
  refine g_getN (C := RX8) (T := TX8) (NN := 7) (ci := 8) hx hb hts hinX8 hown hE hG (k := 7) (by omega) rfl rfl 0 (by decide) 8 rfl rfl (v := .int (A 7 0)) rfl dX9_state_4 ?_
  refine g_top (y := zI (G 28 14)) (hsy.1) ?_
  exact g_iret hx hb hr hlocks hG ⟨rfl, rfl, rfl⟩ dX9_state_7

abbrev PX9_taken (ad : Nat → Nat) (A : Nat → Nat → Int32) (J : Nat → Nat → Int64) (G : Nat → Nat → Int) (nq : Nat) : Option Value → (Nat → Nat → Int32) → (Nat → Nat → Int64) → Prop := fun v_ A1 J1 => (v_ = some (.int (zI (G 28 12))) ∧ A = A1 ∧ J = J1)
set_option maxHeartbeats 4000000 in
set_option maxRecDepth 100000 in
theorem cX9_takenC (l : Launch) (D : va_G) (cy : Nat → ClassId) (base : Nat) (ad : Nat → Nat) (n : Nat) (A : Nat → Nat → Int32) (J : Nat → Nat → Int64) (G : Nat → Nat → Int) (nq : Nat) (hnq : nq = n) (hC : CAll nq A J G) : gMet l yX9_taken wsX9_taken ({ frames := 0, cells := 0, slots := 0, locals := 0 } : Room) D cy base ad n A J [.ref (ad 0)] (PX9_taken ad A J G nq) := by
  refine g_ofW (cc := cX9_taken) (maxL := 1) (ret := (some .int)) (by decide) rfl (Nat.le_of_ble_eq_true rfl) ?_
  intro pM eM sM mM aM bM methM cM H locs ls hx hb hr hts hown hlocks hml hE hG hl
  have hl : lv_has ls 1 [(0, .ref (ad 0))] := hl
  have hinX8 : ∀ w ∈ u_ws RX8 TX8 7, w ∈ wsX9_taken := by decide +kernel
  have hinX9 : ∀ w ∈ u_ws RX9 TX9 6, w ∈ wsX9_taken := by decide +kernel
  have hC0 := hC
  rw [hnq] at hC
  obtain ⟨hct, hn, hT, hFs, hpr, hz, hU, hD, hso, hse, hli, hsy, hde, hcd, hok, hdv, hdr, hsn, hol, hln⟩ := id hC
  refine lv_aload_n hx hb dX9_taken_0 rfl (lv_at hl 0 rfl) ?_
  refine g_get (C := RX9) (T := TX9) (NN := 6) (ci := 9) hx hb hts hinX9 hown hE hG (k := 0) (by omega) rfl rfl 3 (by decide) (hts (.fieldLink RX9 33 "Commutator" "synchroniser" "LCommutator$Synchroniser;") (List.mem_of_getElem? (i := 1) rfl)) rfl (v := .ref (ad 7)) rfl dX9_taken_1 ?_
  refine g_getN (C := RX8) (T := TX8) (NN := 7) (ci := 8) hx hb hts hinX8 hown hE hG (k := 7) (by omega) rfl rfl 1 (by decide) 9 rfl rfl (v := .int (A 7 1)) rfl dX9_taken_4 ?_
  refine g_top (y := zI (G 28 12)) (hsy.2.1) ?_
  exact g_iret hx hb hr hlocks hG ⟨rfl, rfl, rfl⟩ dX9_taken_7

abbrev PX9_frames (ad : Nat → Nat) (A : Nat → Nat → Int32) (J : Nat → Nat → Int64) (G : Nat → Nat → Int) (nq : Nat) : Option Value → (Nat → Nat → Int32) → (Nat → Nat → Int64) → Prop := fun v_ A1 J1 => (v_ = some (.int (zI (G 28 21))) ∧ A = A1 ∧ J = J1)
set_option maxHeartbeats 4000000 in
set_option maxRecDepth 100000 in
theorem cX9_framesC (l : Launch) (D : va_G) (cy : Nat → ClassId) (base : Nat) (ad : Nat → Nat) (n : Nat) (A : Nat → Nat → Int32) (J : Nat → Nat → Int64) (G : Nat → Nat → Int) (nq : Nat) (hnq : nq = n) (hC : CAll nq A J G) : gMet l yX9_frames wsX9_frames ({ frames := 0, cells := 0, slots := 0, locals := 0 } : Room) D cy base ad n A J [.ref (ad 0)] (PX9_frames ad A J G nq) := by
  refine g_ofW (cc := cX9_frames) (maxL := 1) (ret := (some .int)) (by decide) rfl (Nat.le_of_ble_eq_true rfl) ?_
  intro pM eM sM mM aM bM methM cM H locs ls hx hb hr hts hown hlocks hml hE hG hl
  have hl : lv_has ls 1 [(0, .ref (ad 0))] := hl
  have hinX0 : ∀ w ∈ u_ws RX0 TX0 5, w ∈ wsX9_frames := by decide +kernel
  have hinX9 : ∀ w ∈ u_ws RX9 TX9 6, w ∈ wsX9_frames := by decide +kernel
  have hC0 := hC
  rw [hnq] at hC
  obtain ⟨hct, hn, hT, hFs, hpr, hz, hU, hD, hso, hse, hli, hsy, hde, hcd, hok, hdv, hdr, hsn, hol, hln⟩ := id hC
  refine lv_aload_n hx hb dX9_frames_0 rfl (lv_at hl 0 rfl) ?_
  refine g_get (C := RX9) (T := TX9) (NN := 6) (ci := 9) hx hb hts hinX9 hown hE hG (k := 0) (by omega) rfl rfl 4 (by decide) (hts (.fieldLink RX9 40 "Commutator" "decoder" "LCommutator$Decoder;") (List.mem_of_getElem? (i := 1) rfl)) rfl (v := .ref (ad 9)) rfl dX9_frames_1 ?_
  refine g_getN (C := RX0) (T := TX0) (NN := 5) (ci := 0) hx hb hts hinX0 hown hE hG (k := 9) (by omega) rfl rfl 0 (by decide) 12 rfl rfl (v := .int (A 9 0)) rfl dX9_frames_4 ?_
  refine g_top (y := zI (G 28 21)) (hde.1) ?_
  exact g_iret hx hb hr hlocks hG ⟨rfl, rfl, rfl⟩ dX9_frames_7

abbrev PX9_lost (ad : Nat → Nat) (A : Nat → Nat → Int32) (J : Nat → Nat → Int64) (G : Nat → Nat → Int) (nq : Nat) : Option Value → (Nat → Nat → Int32) → (Nat → Nat → Int64) → Prop := fun v_ A1 J1 => (v_ = some (.int (zI (G 28 22))) ∧ A = A1 ∧ J = J1)
set_option maxHeartbeats 4000000 in
set_option maxRecDepth 100000 in
theorem cX9_lostC (l : Launch) (D : va_G) (cy : Nat → ClassId) (base : Nat) (ad : Nat → Nat) (n : Nat) (A : Nat → Nat → Int32) (J : Nat → Nat → Int64) (G : Nat → Nat → Int) (nq : Nat) (hnq : nq = n) (hC : CAll nq A J G) : gMet l yX9_lost wsX9_lost ({ frames := 0, cells := 0, slots := 0, locals := 0 } : Room) D cy base ad n A J [.ref (ad 0)] (PX9_lost ad A J G nq) := by
  refine g_ofW (cc := cX9_lost) (maxL := 1) (ret := (some .int)) (by decide) rfl (Nat.le_of_ble_eq_true rfl) ?_
  intro pM eM sM mM aM bM methM cM H locs ls hx hb hr hts hown hlocks hml hE hG hl
  have hl : lv_has ls 1 [(0, .ref (ad 0))] := hl
  have hinX0 : ∀ w ∈ u_ws RX0 TX0 5, w ∈ wsX9_lost := by decide +kernel
  have hinX9 : ∀ w ∈ u_ws RX9 TX9 6, w ∈ wsX9_lost := by decide +kernel
  have hC0 := hC
  rw [hnq] at hC
  obtain ⟨hct, hn, hT, hFs, hpr, hz, hU, hD, hso, hse, hli, hsy, hde, hcd, hok, hdv, hdr, hsn, hol, hln⟩ := id hC
  refine lv_aload_n hx hb dX9_lost_0 rfl (lv_at hl 0 rfl) ?_
  refine g_get (C := RX9) (T := TX9) (NN := 6) (ci := 9) hx hb hts hinX9 hown hE hG (k := 0) (by omega) rfl rfl 4 (by decide) (hts (.fieldLink RX9 40 "Commutator" "decoder" "LCommutator$Decoder;") (List.mem_of_getElem? (i := 1) rfl)) rfl (v := .ref (ad 9)) rfl dX9_lost_1 ?_
  refine g_getN (C := RX0) (T := TX0) (NN := 5) (ci := 0) hx hb hts hinX0 hown hE hG (k := 9) (by omega) rfl rfl 1 (by decide) 13 rfl rfl (v := .int (A 9 1)) rfl dX9_lost_4 ?_
  refine g_top (y := zI (G 28 22)) (hde.2.1) ?_
  exact g_iret hx hb hr hlocks hG ⟨rfl, rfl, rfl⟩ dX9_lost_7

abbrev PX9_repeats (ad : Nat → Nat) (A : Nat → Nat → Int32) (J : Nat → Nat → Int64) (G : Nat → Nat → Int) (nq : Nat) : Option Value → (Nat → Nat → Int32) → (Nat → Nat → Int64) → Prop := fun v_ A1 J1 => (v_ = some (.int (zI (G 28 23))) ∧ A = A1 ∧ J = J1)
set_option maxHeartbeats 4000000 in
set_option maxRecDepth 100000 in
theorem cX9_repeatsC (l : Launch) (D : va_G) (cy : Nat → ClassId) (base : Nat) (ad : Nat → Nat) (n : Nat) (A : Nat → Nat → Int32) (J : Nat → Nat → Int64) (G : Nat → Nat → Int) (nq : Nat) (hnq : nq = n) (hC : CAll nq A J G) : gMet l yX9_repeats wsX9_repeats ({ frames := 0, cells := 0, slots := 0, locals := 0 } : Room) D cy base ad n A J [.ref (ad 0)] (PX9_repeats ad A J G nq) := by
  refine g_ofW (cc := cX9_repeats) (maxL := 1) (ret := (some .int)) (by decide) rfl (Nat.le_of_ble_eq_true rfl) ?_
  intro pM eM sM mM aM bM methM cM H locs ls hx hb hr hts hown hlocks hml hE hG hl
  have hl : lv_has ls 1 [(0, .ref (ad 0))] := hl
  have hinX0 : ∀ w ∈ u_ws RX0 TX0 5, w ∈ wsX9_repeats := by decide +kernel
  have hinX9 : ∀ w ∈ u_ws RX9 TX9 6, w ∈ wsX9_repeats := by decide +kernel
  have hC0 := hC
  rw [hnq] at hC
  obtain ⟨hct, hn, hT, hFs, hpr, hz, hU, hD, hso, hse, hli, hsy, hde, hcd, hok, hdv, hdr, hsn, hol, hln⟩ := id hC
  refine lv_aload_n hx hb dX9_repeats_0 rfl (lv_at hl 0 rfl) ?_
  refine g_get (C := RX9) (T := TX9) (NN := 6) (ci := 9) hx hb hts hinX9 hown hE hG (k := 0) (by omega) rfl rfl 4 (by decide) (hts (.fieldLink RX9 40 "Commutator" "decoder" "LCommutator$Decoder;") (List.mem_of_getElem? (i := 1) rfl)) rfl (v := .ref (ad 9)) rfl dX9_repeats_1 ?_
  refine g_getN (C := RX0) (T := TX0) (NN := 5) (ci := 0) hx hb hts hinX0 hown hE hG (k := 9) (by omega) rfl rfl 2 (by decide) 14 rfl rfl (v := .int (A 9 2)) rfl dX9_repeats_4 ?_
  refine g_top (y := zI (G 28 23)) (hde.2.2.1) ?_
  exact g_iret hx hb hr hlocks hG ⟨rfl, rfl, rfl⟩ dX9_repeats_7

abbrev PX9_number (ad : Nat → Nat) (A : Nat → Nat → Int32) (J : Nat → Nat → Int64) (G : Nat → Nat → Int) (nq : Nat) : Option Value → (Nat → Nat → Int32) → (Nat → Nat → Int64) → Prop := fun v_ A1 J1 => (v_ = some (.int (zI (G 28 20))) ∧ A = A1 ∧ J = J1 ∧ (G 28 21 ≠ 0))
abbrev EX9_number (ad : Nat → Nat) (A : Nat → Nat → Int32) (J : Nat → Nat → Int64) (G : Nat → Nat → Int) (nq : Nat) : String → (Nat → Nat → Int32) → (Nat → Nat → Int64) → Prop := fun e_ A1 J1 => (e_ = "java/util/NoSuchElementException" ∧ A = A1 ∧ J = J1 ∧ (G 28 21 = 0))
set_option maxHeartbeats 4000000 in
set_option maxRecDepth 100000 in
theorem cX9_numberC (l : Launch) (D : va_G) (cy : Nat → ClassId) (base : Nat) (ad : Nat → Nat) (n : Nat) (A : Nat → Nat → Int32) (J : Nat → Nat → Int64) (G : Nat → Nat → Int) (nq : Nat) (hst : l.stackTraces = false) (hnq : nq = n) (hC : CAll nq A J G) : gMetX l yX9_number wsX9_number ({ frames := 6, cells := 1, slots := 6, locals := 100 } : Room) D cy base ad n A J [.ref (ad 0)] (PX9_number ad A J G nq) (EX9_number ad A J G nq) 1 6 := by
  refine gx_ofW (cc := cX9_number) (maxL := 1) (ret := (some .int)) (by decide) rfl (Nat.le_of_ble_eq_true rfl) ?_
  intro pM eM sM mM aM bM methM cM H locs ls hx hb hr hts hown hlocks hml hout hE hG hl
  have hl : lv_has ls 1 [(0, .ref (ad 0))] := hl
  have hinX0 : ∀ w ∈ u_ws RX0 TX0 5, w ∈ wsX9_number := by decide +kernel
  have hinX9 : ∀ w ∈ u_ws RX9 TX9 6, w ∈ wsX9_number := by decide +kernel
  have hC0 := hC
  rw [hnq] at hC
  obtain ⟨hct, hn, hT, hFs, hpr, hz, hU, hD, hso, hse, hli, hsy, hde, hcd, hok, hdv, hdr, hsn, hol, hln⟩ := id hC
  have hnr := hok.2.2.2.2.1
  have hta := hok.2.2.1
  refine lv_aload_n hx hb dX9_number_0 rfl (lv_at hl 0 rfl) ?_
  refine g_get (C := RX9) (T := TX9) (NN := 6) (ci := 9) hx hb hts hinX9 hown hE hG (k := 0) (by omega) rfl rfl 4 (by decide) (hts (.fieldLink RX9 40 "Commutator" "decoder" "LCommutator$Decoder;") (List.mem_of_getElem? (i := 3) rfl)) rfl (v := .ref (ad 9)) rfl dX9_number_1 ?_
  refine g_getN (C := RX0) (T := TX0) (NN := 5) (ci := 0) hx hb hts hinX0 hown hE hG (k := 9) (by omega) rfl rfl 0 (by decide) 12 rfl rfl (v := .int (A 9 0)) rfl dX9_number_4 ?_
  refine g_top (y := zI (G 28 21)) (hde.1) ?_
  refine lv_if_ne (tgt := 18) hx hb dX9_number_7 (by decide) (fun c7 => ?_) (fun c7 => ?_)
  · skip
    have c7 : ¬ ((zI (G 28 21)) = nI 0) := c7
    have c7 : ¬ ((G 28 21) = ((0 : Nat) : Int)) := fun z9 => c7 ((cmp_eq (zI_toInt (by omega) (by omega)) (nI_toInt (by omega))).mpr z9)
    refine lv_aload_n hx hb dX9_number_18 rfl (lv_at hl 0 rfl) ?_
    refine g_get (C := RX9) (T := TX9) (NN := 6) (ci := 9) hx hb hts hinX9 hown hE hG (k := 0) (by omega) rfl rfl 4 (by decide) (hts (.fieldLink RX9 40 "Commutator" "decoder" "LCommutator$Decoder;") (List.mem_of_getElem? (i := 3) rfl)) rfl (v := .ref (ad 9)) rfl dX9_number_19 ?_
    refine g_getN (C := RX0) (T := TX0) (NN := 5) (ci := 0) hx hb hts hinX0 hown hE hG (k := 9) (by omega) rfl rfl 4 (by decide) 15 rfl rfl (v := .int (A 9 4)) rfl dX9_number_22 ?_
    refine g_top (y := zI (G 28 20)) ((hde.2.2.2 (by omega)).2) ?_
    exact gx_iret hx hb hr hlocks hG (Nat.le_of_ble_eq_true rfl) (Nat.le_of_ble_eq_true rfl) ⟨rfl, rfl, rfl, (by first | omega | rfl | assumption)⟩ dX9_number_25
  · skip
    have c7 : (zI (G 28 21)) = nI 0 := c7
    have c7 : (G 28 21) = ((0 : Nat) : Int) := (cmp_eq (zI_toInt (by omega) (by omega)) (nI_toInt (by omega))).mp c7
    exact gx_throw (cls := "java/util/NoSuchElementException") (ik := 157) (ic := 159) hx hb hst hown (by decide +kernel) (hts (.classLink RX9 157 "java/util/NoSuchElementException") (List.mem_of_getElem? (i := 1) rfl)) (hts (.initialized "java/util/NoSuchElementException") (List.mem_of_getElem? (i := 2) rfl)) (vxg_NS (fun w9 h9 => hts w9 (List.mem_cons_of_mem _ (List.mem_append_right _ h9)))) vxo_NS hE hG (hl.1.trans hml.symm) dX9_number_10 dX9_number_13 dX9_number_14 dX9_number_17 hout (Nat.le_of_ble_eq_true rfl) (Nat.le_of_ble_eq_true rfl) (Nat.le_of_ble_eq_true rfl) (Nat.le_of_ble_eq_true rfl) hlocks ⟨rfl, rfl, rfl, (by first | assumption | omega)⟩ (Nat.le_of_ble_eq_true rfl) (Nat.le_of_ble_eq_true rfl)

abbrev PX9_spare (ad : Nat → Nat) (A : Nat → Nat → Int32) (J : Nat → Nat → Int64) (G : Nat → Nat → Int) (nq : Nat) : Option Value → (Nat → Nat → Int32) → (Nat → Nat → Int64) → Prop := fun v_ A1 J1 => (v_ = some (.int (zI (mSpare G 192))) ∧ A = A1 ∧ J = J1)
set_option maxHeartbeats 4000000 in
set_option maxRecDepth 100000 in
theorem cX9_spareC (l : Launch) (D : va_G) (cy : Nat → ClassId) (base : Nat) (ad : Nat → Nat) (n : Nat) (A : Nat → Nat → Int32) (J : Nat → Nat → Int64) (G : Nat → Nat → Int) (nq : Nat) (hnq : nq = n) (hC : CAll nq A J G) : gMet l yX9_spare wsX9_spare ({ frames := 2, cells := 0, slots := 0, locals := 43 } : Room) D cy base ad n A J [.ref (ad 0)] (PX9_spare ad A J G nq) := by
  refine g_ofW (cc := cX9_spare) (maxL := 1) (ret := (some .int)) (by decide) rfl (Nat.le_of_ble_eq_true rfl) ?_
  intro pM eM sM mM aM bM methM cM H locs ls hx hb hr hts hown hlocks hml hE hG hl
  have hl : lv_has ls 1 [(0, .ref (ad 0))] := hl
  have hinX5 : ∀ w ∈ u_ws RX5 TX5 3, w ∈ wsX9_spare := by decide +kernel
  have hinX9 : ∀ w ∈ u_ws RX9 TX9 6, w ∈ wsX9_spare := by decide +kernel
  have hC0 := hC
  rw [hnq] at hC
  obtain ⟨hct, hn, hT, hFs, hpr, hz, hU, hD, hso, hse, hli, hsy, hde, hcd, hok, hdv, hdr, hsn, hol, hln⟩ := id hC
  refine lv_aload_n hx hb dX9_spare_0 rfl (lv_at hl 0 rfl) ?_
  refine g_get (C := RX9) (T := TX9) (NN := 6) (ci := 9) hx hb hts hinX9 hown hE hG (k := 0) (by omega) rfl rfl 0 (by decide) (hts (.fieldLink RX9 10 "Commutator" "table" "LCommutator$PointTable;") (List.mem_of_getElem? (i := 1) rfl)) rfl (v := .ref (ad 1)) rfl dX9_spare_1 ?_
  refine g_callV (As := []) (rest := []) (r := (RX5, TX5, 3)) ⟨hx, hb, hml, hown, hts⟩ hE hG (cX5_spareBitsC l D cy base ad n A J ) (cwV 0 hts gX9_spare_X5_spareBits rfl rfl rfl (by decide +kernel) ⟨Nat.le_of_ble_eq_true rfl, Nat.le_of_ble_eq_true rfl⟩) (by omega) rfl rfl rfl hl.1 rfl (Nat.le_of_ble_eq_true rfl) dX9_spare_4 ⟨Nat.zero_le _, Nat.zero_le _⟩ (fun v_ A4 J4 H locs hp hG => ?_)
  obtain ⟨rfl, rfl, rfl⟩ := hp
  refine W.eq (g2 := F0 mM 7 ls [.int (zI (192 - (gCnt J 4 : Int)))]) rfl ?_
  exact g_iret hx hb hr hlocks hG ⟨(by rw [gCnt_spare hU]), rfl, rfl⟩ dX9_spare_7

abbrev PX9_onLine (ad : Nat → Nat) (A : Nat → Nat → Int32) (J : Nat → Nat → Int64) (G : Nat → Nat → Int) (nq : Nat) : Option Value → (Nat → Nat → Int32) → (Nat → Nat → Int64) → Prop := fun v_ A1 J1 => (v_ = some (.int (zI (G 28 10))) ∧ A = A1 ∧ J = J1)
set_option maxHeartbeats 4000000 in
set_option maxRecDepth 100000 in
theorem cX9_onLineC (l : Launch) (D : va_G) (cy : Nat → ClassId) (base : Nat) (ad : Nat → Nat) (n : Nat) (A : Nat → Nat → Int32) (J : Nat → Nat → Int64) (G : Nat → Nat → Int) (nq : Nat) (hnq : nq = n) (hC : CAll nq A J G) : gMet l yX9_onLine wsX9_onLine ({ frames := 1, cells := 0, slots := 0, locals := 20 } : Room) D cy base ad n A J [.ref (ad 0)] (PX9_onLine ad A J G nq) := by
  refine g_ofW (cc := cX9_onLine) (maxL := 1) (ret := (some .int)) (by decide) rfl (Nat.le_of_ble_eq_true rfl) ?_
  intro pM eM sM mM aM bM methM cM H locs ls hx hb hr hts hown hlocks hml hE hG hl
  have hl : lv_has ls 1 [(0, .ref (ad 0))] := hl
  have hinX3 : ∀ w ∈ u_ws RX3 TX3 3, w ∈ wsX9_onLine := by decide +kernel
  have hinX9 : ∀ w ∈ u_ws RX9 TX9 6, w ∈ wsX9_onLine := by decide +kernel
  have hC0 := hC
  rw [hnq] at hC
  obtain ⟨hct, hn, hT, hFs, hpr, hz, hU, hD, hso, hse, hli, hsy, hde, hcd, hok, hdv, hdr, hsn, hol, hln⟩ := id hC
  have hta := hok.2.2.1
  have hl1 := hli.1
  have hl2 := hli.2.1
  refine lv_aload_n hx hb dX9_onLine_0 rfl (lv_at hl 0 rfl) ?_
  refine g_get (C := RX9) (T := TX9) (NN := 6) (ci := 9) hx hb hts hinX9 hown hE hG (k := 0) (by omega) rfl rfl 1 (by decide) (hts (.fieldLink RX9 19 "Commutator" "line" "LCommutator$Line;") (List.mem_of_getElem? (i := 1) rfl)) rfl (v := .ref (ad 4)) rfl dX9_onLine_1 ?_
  refine g_callV (As := []) (rest := []) (r := (RX3, TX3, 3)) ⟨hx, hb, hml, hown, hts⟩ hE hG (cX3_lengthC l D cy base ad n A J ((G 28 12).toNat) ((G 28 12).toNat + (G 28 10).toNat) hl1 hl2 (by omega) (by omega)) (cwV 0 hts gX9_onLine_X3_length rfl rfl rfl (by decide +kernel) ⟨Nat.le_of_ble_eq_true rfl, Nat.le_of_ble_eq_true rfl⟩) (by omega) rfl rfl rfl hl.1 rfl (Nat.le_of_ble_eq_true rfl) dX9_onLine_4 ⟨Nat.zero_le _, Nat.zero_le _⟩ (fun v_ A4 J4 H locs hp hG => ?_)
  obtain ⟨rfl, rfl, rfl⟩ := hp
  refine W.eq (g2 := F0 mM 7 ls [.int (nI (((G 28 12).toNat + (G 28 10).toNat) - ((G 28 12).toNat)))]) rfl ?_
  exact g_iret hx hb hr hlocks hG ⟨(by rw [zI_nat (by omega)]; congr 3; omega), rfl, rfl⟩ dX9_onLine_7

abbrev PX9_matches (ad : Nat → Nat) (A : Nat → Nat → Int32) (J : Nat → Nat → Int64) (G : Nat → Nat → Int) (nq : Nat) (zq : Int) : Option Value → (Nat → Nat → Int32) → (Nat → Nat → Int64) → Prop := fun v_ A1 J1 => (v_ = some (.int (zI (mMat G zq.toNat))) ∧ A = A1 ∧ J = J1 ∧ (0 ≤ zq ∧ zq < 64))
abbrev EX9_matches (ad : Nat → Nat) (A : Nat → Nat → Int32) (J : Nat → Nat → Int64) (G : Nat → Nat → Int) (nq : Nat) (zq : Int) : String → (Nat → Nat → Int32) → (Nat → Nat → Int64) → Prop := fun e_ A1 J1 => (e_ = "java/lang/IllegalArgumentException" ∧ A = A1 ∧ J = J1 ∧ (¬ (0 ≤ zq ∧ zq < 64)))
set_option maxHeartbeats 4000000 in
set_option maxRecDepth 100000 in
theorem cX9_matchesC (l : Launch) (D : va_G) (cy : Nat → ClassId) (base : Nat) (ad : Nat → Nat) (n : Nat) (A : Nat → Nat → Int32) (J : Nat → Nat → Int64) (G : Nat → Nat → Int) (nq : Nat) (zq : Int) (hst : l.stackTraces = false) (hnq : nq = n) (hC : CAll nq A J G) (hzq : -2147483648 ≤ zq ∧ zq < 2147483648) : gMetX l yX9_matches wsX9_matches ({ frames := 6, cells := 1, slots := 6, locals := 100 } : Room) D cy base ad n A J [.ref (ad 0), .int (zI zq)] (PX9_matches ad A J G nq zq) (EX9_matches ad A J G nq zq) 1 6 := by
  refine gx_ofW (cc := cX9_matches) (maxL := 2) (ret := (some .int)) (by decide) rfl (Nat.le_of_ble_eq_true rfl) ?_
  intro pM eM sM mM aM bM methM cM H locs ls hx hb hr hts hown hlocks hml hout hE hG hl
  have hl : lv_has ls 2 [(0, .ref (ad 0)), (1, .int (zI zq))] := hl
  have hinX8 : ∀ w ∈ u_ws RX8 TX8 7, w ∈ wsX9_matches := by decide +kernel
  have hinX9 : ∀ w ∈ u_ws RX9 TX9 6, w ∈ wsX9_matches := by decide +kernel
  have hC0 := hC
  rw [hnq] at hC
  obtain ⟨hct, hn, hT, hFs, hpr, hz, hU, hD, hso, hse, hli, hsy, hde, hcd, hok, hdv, hdr, hsn, hol, hln⟩ := id hC
  refine lv_iload_n hx hb dX9_matches_0 rfl (lv_at hl 1 rfl) ?_
  refine lv_if_lt (tgt := 10) hx hb dX9_matches_1 (by decide) (fun c1 => ?_) (fun c1 => ?_)
  · skip
    have c1 : (zI zq) < nI 0 := c1
    have c1 : zq < ((0 : Nat) : Int) := (cmp_lt (zI_toInt (by omega) (by omega)) (nI_toInt (by omega))).mp c1
    exact gx_throw (cls := "java/lang/IllegalArgumentException") (ik := 55) (ic := 57) hx hb hst hown (by decide +kernel) (hts (.classLink RX9 55 "java/lang/IllegalArgumentException") (List.mem_of_getElem? (i := 1) rfl)) (hts (.initialized "java/lang/IllegalArgumentException") (List.mem_of_getElem? (i := 2) rfl)) (vxg_IA (fun w9 h9 => hts w9 (List.mem_cons_of_mem _ (List.mem_append_right _ h9)))) vxo_IA hE hG (hl.1.trans hml.symm) dX9_matches_10 dX9_matches_13 dX9_matches_14 dX9_matches_17 hout (Nat.le_of_ble_eq_true rfl) (Nat.le_of_ble_eq_true rfl) (Nat.le_of_ble_eq_true rfl) (Nat.le_of_ble_eq_true rfl) hlocks ⟨rfl, rfl, rfl, (by first | assumption | omega)⟩ (Nat.le_of_ble_eq_true rfl) (Nat.le_of_ble_eq_true rfl)
  · skip
    have c1 : ¬ ((zI zq) < nI 0) := c1
    have c1 : ¬ (zq < ((0 : Nat) : Int)) := fun z9 => c1 ((cmp_lt (zI_toInt (by omega) (by omega)) (nI_toInt (by omega))).mpr z9)
    refine lv_iload_n hx hb dX9_matches_4 rfl (lv_at hl 1 rfl) ?_
    refine lv_bipush (v := nI 64) hx hb dX9_matches_5 (by decide) ?_
    refine lv_icmp_lt (tgt := 18) hx hb dX9_matches_7 (by decide) (fun c7 => ?_) (fun c7 => ?_)
    · skip
      have c7 : zq < ((64 : Nat) : Int) := (cmp_lt (zI_toInt (by omega) (by omega)) (nI_toInt (by omega))).mp c7
      refine lv_aload_n hx hb dX9_matches_18 rfl (lv_at hl 0 rfl) ?_
      refine g_get (C := RX9) (T := TX9) (NN := 6) (ci := 9) hx hb hts hinX9 hown hE hG (k := 0) (by omega) rfl rfl 3 (by decide) (hts (.fieldLink RX9 33 "Commutator" "synchroniser" "LCommutator$Synchroniser;") (List.mem_of_getElem? (i := 3) rfl)) rfl (v := .ref (ad 7)) rfl dX9_matches_19 ?_
      refine lv_iload_n hx hb dX9_matches_22 rfl (lv_at hl 1 rfl) ?_
      refine g_top (y := nI zq.toNat) (zI_nat (by omega)) ?_
      refine g_callV (As := [.int (nI zq.toNat)]) (rest := []) (r := (RX8, TX8, 7)) ⟨hx, hb, hml, hown, hts⟩ hE hG (cX8_syncWordsAtC l D cy base ad n A J zq.toNat (mMat G zq.toNat) (by first | assumption | omega) (hsy.2.2.2.2.2.2 _ (by omega))) (cwV 1 hts gX9_matches_X8_syncWordsAt rfl rfl rfl (by decide +kernel) ⟨Nat.le_of_ble_eq_true rfl, Nat.le_of_ble_eq_true rfl⟩) (by omega) rfl rfl rfl hl.1 rfl (Nat.le_of_ble_eq_true rfl) dX9_matches_23 ⟨(Nat.le_of_ble_eq_true rfl), (Nat.le_of_ble_eq_true rfl)⟩ (fun v_ A23 J23 H locs hp hG => ?_)
      obtain ⟨rfl, rfl, rfl⟩ := hp
      refine W.eq (g2 := F0 mM 26 ls [.int (zI (mMat G zq.toNat))]) rfl ?_
      exact gx_iret hx hb hr hlocks hG (Nat.le_of_ble_eq_true rfl) (Nat.le_of_ble_eq_true rfl) ⟨rfl, rfl, rfl, (by first | omega | rfl | assumption)⟩ dX9_matches_26
    · skip
      have c7 : ¬ (zq < ((64 : Nat) : Int)) := fun z9 => c7 ((cmp_lt (zI_toInt (by omega) (by omega)) (nI_toInt (by omega))).mpr z9)
      exact gx_throw (cls := "java/lang/IllegalArgumentException") (ik := 55) (ic := 57) hx hb hst hown (by decide +kernel) (hts (.classLink RX9 55 "java/lang/IllegalArgumentException") (List.mem_of_getElem? (i := 1) rfl)) (hts (.initialized "java/lang/IllegalArgumentException") (List.mem_of_getElem? (i := 2) rfl)) (vxg_IA (fun w9 h9 => hts w9 (List.mem_cons_of_mem _ (List.mem_append_right _ h9)))) vxo_IA hE hG (hl.1.trans hml.symm) dX9_matches_10 dX9_matches_13 dX9_matches_14 dX9_matches_17 hout (Nat.le_of_ble_eq_true rfl) (Nat.le_of_ble_eq_true rfl) (Nat.le_of_ble_eq_true rfl) (Nat.le_of_ble_eq_true rfl) hlocks ⟨rfl, rfl, rfl, (by first | assumption | omega)⟩ (Nat.le_of_ble_eq_true rfl) (Nat.le_of_ble_eq_true rfl)
