abbrev PX10_points (ad : Nat → Nat) (A : Nat → Nat → Int32) (J : Nat → Nat → Int64) (G : Nat → Nat → Int) : Option Value → (Nat → Nat → Int32) → (Nat → Nat → Int64) → Prop := fun v_ A1 J1 => (v_ = some (.int (zI (G 28 0))) ∧ gu A 28 34 (nI 0) = A1 ∧ J = J1)
set_option maxHeartbeats 4000000 in
set_option maxRecDepth 100000 in
theorem cX10_pointsC (l : Launch) (D : va_G) (cy : Nat → ClassId) (base : Nat) (ad : Nat → Nat) (n : Nat) (A : Nat → Nat → Int32) (J : Nat → Nat → Int64) (G : Nat → Nat → Int) (hM : MRep A G) : gMet l yX10_points wsX10_points ({ frames := 0, cells := 0, slots := 0, locals := 0 } : Room) D cy base ad n A J [.ref (ad 28)] (PX10_points ad A J G) := by
  refine g_ofW (cc := cX10_points) (maxL := 1) (ret := (some .int)) (by decide) rfl (Nat.le_of_ble_eq_true rfl) ?_
  intro pM eM sM mM aM bM methM cM H locs ls hx hb hr hts hown hlocks hml hE hG hl
  have hl : lv_has ls 1 [(0, .ref (ad 28))] := hl
  have hinX10 : ∀ w ∈ u_ws RX10 TX10 35, w ∈ wsX10_points := by decide +kernel
  refine lv_aload_n hx hb dX10_points_0 rfl (lv_at hl 0 rfl) ?_
  refine lv_iconst (v := nI 0) hx hb dX10_points_1 (by decide) ?_
  refine g_puti (C := RX10) (T := TX10) (NN := 35) (ci := 10) hx hb hts hinX10 tyX10 tyX10_ok nmX10 hown hE hG (k := 28) (by omega) rfl rfl 34 (by decide) (hts (.fieldLink RX10 78 "CommutatorModel" "thrown" "I") (List.mem_of_getElem? (i := 1) rfl)) rfl rfl (ty := .int) (v := nI 0) (by decide +kernel) rfl rfl (Nat.le_of_ble_eq_true rfl) rfl dX10_points_2 (fun H locs hG => ?_)
  refine lv_aload_n hx hb dX10_points_5 rfl (lv_at hl 0 rfl) ?_
  refine g_get (C := RX10) (T := TX10) (NN := 35) (ci := 10) hx hb hts hinX10 hown hE hG (k := 28) (by omega) rfl rfl 0 (by decide) (hts (.fieldLink RX10 81 "CommutatorModel" "points" "I") (List.mem_of_getElem? (i := 2) rfl)) rfl (v := .int (A 28 0)) rfl dX10_points_6 ?_
  refine g_top (y := zI (G 28 0)) (hM 28 0 (by omega) (by omega) (by omega)) ?_
  exact g_iret hx hb hr hlocks hG ⟨rfl, rfl, rfl⟩ dX10_points_9

abbrev PX10_sent (ad : Nat → Nat) (A : Nat → Nat → Int32) (J : Nat → Nat → Int64) (G : Nat → Nat → Int) : Option Value → (Nat → Nat → Int32) → (Nat → Nat → Int64) → Prop := fun v_ A1 J1 => (v_ = some (.int (zI (G 28 9))) ∧ gu A 28 34 (nI 0) = A1 ∧ J = J1)
set_option maxHeartbeats 4000000 in
set_option maxRecDepth 100000 in
theorem cX10_sentC (l : Launch) (D : va_G) (cy : Nat → ClassId) (base : Nat) (ad : Nat → Nat) (n : Nat) (A : Nat → Nat → Int32) (J : Nat → Nat → Int64) (G : Nat → Nat → Int) (hM : MRep A G) : gMet l yX10_sent wsX10_sent ({ frames := 0, cells := 0, slots := 0, locals := 0 } : Room) D cy base ad n A J [.ref (ad 28)] (PX10_sent ad A J G) := by
  refine g_ofW (cc := cX10_sent) (maxL := 1) (ret := (some .int)) (by decide) rfl (Nat.le_of_ble_eq_true rfl) ?_
  intro pM eM sM mM aM bM methM cM H locs ls hx hb hr hts hown hlocks hml hE hG hl
  have hl : lv_has ls 1 [(0, .ref (ad 28))] := hl
  have hinX10 : ∀ w ∈ u_ws RX10 TX10 35, w ∈ wsX10_sent := by decide +kernel
  refine lv_aload_n hx hb dX10_sent_0 rfl (lv_at hl 0 rfl) ?_
  refine lv_iconst (v := nI 0) hx hb dX10_sent_1 (by decide) ?_
  refine g_puti (C := RX10) (T := TX10) (NN := 35) (ci := 10) hx hb hts hinX10 tyX10 tyX10_ok nmX10 hown hE hG (k := 28) (by omega) rfl rfl 34 (by decide) (hts (.fieldLink RX10 78 "CommutatorModel" "thrown" "I") (List.mem_of_getElem? (i := 1) rfl)) rfl rfl (ty := .int) (v := nI 0) (by decide +kernel) rfl rfl (Nat.le_of_ble_eq_true rfl) rfl dX10_sent_2 (fun H locs hG => ?_)
  refine lv_aload_n hx hb dX10_sent_5 rfl (lv_at hl 0 rfl) ?_
  refine g_get (C := RX10) (T := TX10) (NN := 35) (ci := 10) hx hb hts hinX10 hown hE hG (k := 28) (by omega) rfl rfl 9 (by decide) (hts (.fieldLink RX10 104 "CommutatorModel" "words" "I") (List.mem_of_getElem? (i := 2) rfl)) rfl (v := .int (A 28 9)) rfl dX10_sent_6 ?_
  refine g_top (y := zI (G 28 9)) (hM 28 9 (by omega) (by omega) (by omega)) ?_
  exact g_iret hx hb hr hlocks hG ⟨rfl, rfl, rfl⟩ dX10_sent_9

abbrev PX10_onLine (ad : Nat → Nat) (A : Nat → Nat → Int32) (J : Nat → Nat → Int64) (G : Nat → Nat → Int) : Option Value → (Nat → Nat → Int32) → (Nat → Nat → Int64) → Prop := fun v_ A1 J1 => (v_ = some (.int (zI (G 28 10))) ∧ gu A 28 34 (nI 0) = A1 ∧ J = J1)
set_option maxHeartbeats 4000000 in
set_option maxRecDepth 100000 in
theorem cX10_onLineC (l : Launch) (D : va_G) (cy : Nat → ClassId) (base : Nat) (ad : Nat → Nat) (n : Nat) (A : Nat → Nat → Int32) (J : Nat → Nat → Int64) (G : Nat → Nat → Int) (hM : MRep A G) : gMet l yX10_onLine wsX10_onLine ({ frames := 0, cells := 0, slots := 0, locals := 0 } : Room) D cy base ad n A J [.ref (ad 28)] (PX10_onLine ad A J G) := by
  refine g_ofW (cc := cX10_onLine) (maxL := 1) (ret := (some .int)) (by decide) rfl (Nat.le_of_ble_eq_true rfl) ?_
  intro pM eM sM mM aM bM methM cM H locs ls hx hb hr hts hown hlocks hml hE hG hl
  have hl : lv_has ls 1 [(0, .ref (ad 28))] := hl
  have hinX10 : ∀ w ∈ u_ws RX10 TX10 35, w ∈ wsX10_onLine := by decide +kernel
  refine lv_aload_n hx hb dX10_onLine_0 rfl (lv_at hl 0 rfl) ?_
  refine lv_iconst (v := nI 0) hx hb dX10_onLine_1 (by decide) ?_
  refine g_puti (C := RX10) (T := TX10) (NN := 35) (ci := 10) hx hb hts hinX10 tyX10 tyX10_ok nmX10 hown hE hG (k := 28) (by omega) rfl rfl 34 (by decide) (hts (.fieldLink RX10 78 "CommutatorModel" "thrown" "I") (List.mem_of_getElem? (i := 1) rfl)) rfl rfl (ty := .int) (v := nI 0) (by decide +kernel) rfl rfl (Nat.le_of_ble_eq_true rfl) rfl dX10_onLine_2 (fun H locs hG => ?_)
  refine lv_aload_n hx hb dX10_onLine_5 rfl (lv_at hl 0 rfl) ?_
  refine g_get (C := RX10) (T := TX10) (NN := 35) (ci := 10) hx hb hts hinX10 hown hE hG (k := 28) (by omega) rfl rfl 10 (by decide) (hts (.fieldLink RX10 117 "CommutatorModel" "onLine" "I") (List.mem_of_getElem? (i := 2) rfl)) rfl (v := .int (A 28 10)) rfl dX10_onLine_6 ?_
  refine g_top (y := zI (G 28 10)) (hM 28 10 (by omega) (by omega) (by omega)) ?_
  exact g_iret hx hb hr hlocks hG ⟨rfl, rfl, rfl⟩ dX10_onLine_9

abbrev PX10_state (ad : Nat → Nat) (A : Nat → Nat → Int32) (J : Nat → Nat → Int64) (G : Nat → Nat → Int) : Option Value → (Nat → Nat → Int32) → (Nat → Nat → Int64) → Prop := fun v_ A1 J1 => (v_ = some (.int (zI (G 28 14))) ∧ gu A 28 34 (nI 0) = A1 ∧ J = J1)
set_option maxHeartbeats 4000000 in
set_option maxRecDepth 100000 in
theorem cX10_stateC (l : Launch) (D : va_G) (cy : Nat → ClassId) (base : Nat) (ad : Nat → Nat) (n : Nat) (A : Nat → Nat → Int32) (J : Nat → Nat → Int64) (G : Nat → Nat → Int) (hM : MRep A G) : gMet l yX10_state wsX10_state ({ frames := 0, cells := 0, slots := 0, locals := 0 } : Room) D cy base ad n A J [.ref (ad 28)] (PX10_state ad A J G) := by
  refine g_ofW (cc := cX10_state) (maxL := 1) (ret := (some .int)) (by decide) rfl (Nat.le_of_ble_eq_true rfl) ?_
  intro pM eM sM mM aM bM methM cM H locs ls hx hb hr hts hown hlocks hml hE hG hl
  have hl : lv_has ls 1 [(0, .ref (ad 28))] := hl
  have hinX10 : ∀ w ∈ u_ws RX10 TX10 35, w ∈ wsX10_state := by decide +kernel
  refine lv_aload_n hx hb dX10_state_0 rfl (lv_at hl 0 rfl) ?_
  refine lv_iconst (v := nI 0) hx hb dX10_state_1 (by decide) ?_
  refine g_puti (C := RX10) (T := TX10) (NN := 35) (ci := 10) hx hb hts hinX10 tyX10 tyX10_ok nmX10 hown hE hG (k := 28) (by omega) rfl rfl 34 (by decide) (hts (.fieldLink RX10 78 "CommutatorModel" "thrown" "I") (List.mem_of_getElem? (i := 1) rfl)) rfl rfl (ty := .int) (v := nI 0) (by decide +kernel) rfl rfl (Nat.le_of_ble_eq_true rfl) rfl dX10_state_2 (fun H locs hG => ?_)
  refine lv_aload_n hx hb dX10_state_5 rfl (lv_at hl 0 rfl) ?_
  refine g_get (C := RX10) (T := TX10) (NN := 35) (ci := 10) hx hb hts hinX10 hown hE hG (k := 28) (by omega) rfl rfl 14 (by decide) (hts (.fieldLink RX10 151 "CommutatorModel" "state" "I") (List.mem_of_getElem? (i := 2) rfl)) rfl (v := .int (A 28 14)) rfl dX10_state_6 ?_
  refine g_top (y := zI (G 28 14)) (hM 28 14 (by omega) (by omega) (by omega)) ?_
  exact g_iret hx hb hr hlocks hG ⟨rfl, rfl, rfl⟩ dX10_state_9

abbrev PX10_taken (ad : Nat → Nat) (A : Nat → Nat → Int32) (J : Nat → Nat → Int64) (G : Nat → Nat → Int) : Option Value → (Nat → Nat → Int32) → (Nat → Nat → Int64) → Prop := fun v_ A1 J1 => (v_ = some (.int (zI (G 28 12))) ∧ gu A 28 34 (nI 0) = A1 ∧ J = J1)
set_option maxHeartbeats 4000000 in
set_option maxRecDepth 100000 in
theorem cX10_takenC (l : Launch) (D : va_G) (cy : Nat → ClassId) (base : Nat) (ad : Nat → Nat) (n : Nat) (A : Nat → Nat → Int32) (J : Nat → Nat → Int64) (G : Nat → Nat → Int) (hM : MRep A G) : gMet l yX10_taken wsX10_taken ({ frames := 0, cells := 0, slots := 0, locals := 0 } : Room) D cy base ad n A J [.ref (ad 28)] (PX10_taken ad A J G) := by
  refine g_ofW (cc := cX10_taken) (maxL := 1) (ret := (some .int)) (by decide) rfl (Nat.le_of_ble_eq_true rfl) ?_
  intro pM eM sM mM aM bM methM cM H locs ls hx hb hr hts hown hlocks hml hE hG hl
  have hl : lv_has ls 1 [(0, .ref (ad 28))] := hl
  have hinX10 : ∀ w ∈ u_ws RX10 TX10 35, w ∈ wsX10_taken := by decide +kernel
  refine lv_aload_n hx hb dX10_taken_0 rfl (lv_at hl 0 rfl) ?_
  refine lv_iconst (v := nI 0) hx hb dX10_taken_1 (by decide) ?_
  refine g_puti (C := RX10) (T := TX10) (NN := 35) (ci := 10) hx hb hts hinX10 tyX10 tyX10_ok nmX10 hown hE hG (k := 28) (by omega) rfl rfl 34 (by decide) (hts (.fieldLink RX10 78 "CommutatorModel" "thrown" "I") (List.mem_of_getElem? (i := 1) rfl)) rfl rfl (ty := .int) (v := nI 0) (by decide +kernel) rfl rfl (Nat.le_of_ble_eq_true rfl) rfl dX10_taken_2 (fun H locs hG => ?_)
  refine lv_aload_n hx hb dX10_taken_5 rfl (lv_at hl 0 rfl) ?_
  refine g_get (C := RX10) (T := TX10) (NN := 35) (ci := 10) hx hb hts hinX10 hown hE hG (k := 28) (by omega) rfl rfl 12 (by decide) (hts (.fieldLink RX10 164 "CommutatorModel" "taken" "I") (List.mem_of_getElem? (i := 2) rfl)) rfl (v := .int (A 28 12)) rfl dX10_taken_6 ?_
  refine g_top (y := zI (G 28 12)) (hM 28 12 (by omega) (by omega) (by omega)) ?_
  exact g_iret hx hb hr hlocks hG ⟨rfl, rfl, rfl⟩ dX10_taken_9

abbrev PX10_frames (ad : Nat → Nat) (A : Nat → Nat → Int32) (J : Nat → Nat → Int64) (G : Nat → Nat → Int) : Option Value → (Nat → Nat → Int32) → (Nat → Nat → Int64) → Prop := fun v_ A1 J1 => (v_ = some (.int (zI (G 28 21))) ∧ gu A 28 34 (nI 0) = A1 ∧ J = J1)
set_option maxHeartbeats 4000000 in
set_option maxRecDepth 100000 in
theorem cX10_framesC (l : Launch) (D : va_G) (cy : Nat → ClassId) (base : Nat) (ad : Nat → Nat) (n : Nat) (A : Nat → Nat → Int32) (J : Nat → Nat → Int64) (G : Nat → Nat → Int) (hM : MRep A G) : gMet l yX10_frames wsX10_frames ({ frames := 0, cells := 0, slots := 0, locals := 0 } : Room) D cy base ad n A J [.ref (ad 28)] (PX10_frames ad A J G) := by
  refine g_ofW (cc := cX10_frames) (maxL := 1) (ret := (some .int)) (by decide) rfl (Nat.le_of_ble_eq_true rfl) ?_
  intro pM eM sM mM aM bM methM cM H locs ls hx hb hr hts hown hlocks hml hE hG hl
  have hl : lv_has ls 1 [(0, .ref (ad 28))] := hl
  have hinX10 : ∀ w ∈ u_ws RX10 TX10 35, w ∈ wsX10_frames := by decide +kernel
  refine lv_aload_n hx hb dX10_frames_0 rfl (lv_at hl 0 rfl) ?_
  refine lv_iconst (v := nI 0) hx hb dX10_frames_1 (by decide) ?_
  refine g_puti (C := RX10) (T := TX10) (NN := 35) (ci := 10) hx hb hts hinX10 tyX10 tyX10_ok nmX10 hown hE hG (k := 28) (by omega) rfl rfl 34 (by decide) (hts (.fieldLink RX10 78 "CommutatorModel" "thrown" "I") (List.mem_of_getElem? (i := 1) rfl)) rfl rfl (ty := .int) (v := nI 0) (by decide +kernel) rfl rfl (Nat.le_of_ble_eq_true rfl) rfl dX10_frames_2 (fun H locs hG => ?_)
  refine lv_aload_n hx hb dX10_frames_5 rfl (lv_at hl 0 rfl) ?_
  refine g_get (C := RX10) (T := TX10) (NN := 35) (ci := 10) hx hb hts hinX10 hown hE hG (k := 28) (by omega) rfl rfl 21 (by decide) (hts (.fieldLink RX10 145 "CommutatorModel" "frames" "I") (List.mem_of_getElem? (i := 2) rfl)) rfl (v := .int (A 28 21)) rfl dX10_frames_6 ?_
  refine g_top (y := zI (G 28 21)) (hM 28 21 (by omega) (by omega) (by omega)) ?_
  exact g_iret hx hb hr hlocks hG ⟨rfl, rfl, rfl⟩ dX10_frames_9

abbrev PX10_lost (ad : Nat → Nat) (A : Nat → Nat → Int32) (J : Nat → Nat → Int64) (G : Nat → Nat → Int) : Option Value → (Nat → Nat → Int32) → (Nat → Nat → Int64) → Prop := fun v_ A1 J1 => (v_ = some (.int (zI (G 28 22))) ∧ gu A 28 34 (nI 0) = A1 ∧ J = J1)
set_option maxHeartbeats 4000000 in
set_option maxRecDepth 100000 in
theorem cX10_lostC (l : Launch) (D : va_G) (cy : Nat → ClassId) (base : Nat) (ad : Nat → Nat) (n : Nat) (A : Nat → Nat → Int32) (J : Nat → Nat → Int64) (G : Nat → Nat → Int) (hM : MRep A G) : gMet l yX10_lost wsX10_lost ({ frames := 0, cells := 0, slots := 0, locals := 0 } : Room) D cy base ad n A J [.ref (ad 28)] (PX10_lost ad A J G) := by
  refine g_ofW (cc := cX10_lost) (maxL := 1) (ret := (some .int)) (by decide) rfl (Nat.le_of_ble_eq_true rfl) ?_
  intro pM eM sM mM aM bM methM cM H locs ls hx hb hr hts hown hlocks hml hE hG hl
  have hl : lv_has ls 1 [(0, .ref (ad 28))] := hl
  have hinX10 : ∀ w ∈ u_ws RX10 TX10 35, w ∈ wsX10_lost := by decide +kernel
  refine lv_aload_n hx hb dX10_lost_0 rfl (lv_at hl 0 rfl) ?_
  refine lv_iconst (v := nI 0) hx hb dX10_lost_1 (by decide) ?_
  refine g_puti (C := RX10) (T := TX10) (NN := 35) (ci := 10) hx hb hts hinX10 tyX10 tyX10_ok nmX10 hown hE hG (k := 28) (by omega) rfl rfl 34 (by decide) (hts (.fieldLink RX10 78 "CommutatorModel" "thrown" "I") (List.mem_of_getElem? (i := 1) rfl)) rfl rfl (ty := .int) (v := nI 0) (by decide +kernel) rfl rfl (Nat.le_of_ble_eq_true rfl) rfl dX10_lost_2 (fun H locs hG => ?_)
  refine lv_aload_n hx hb dX10_lost_5 rfl (lv_at hl 0 rfl) ?_
  refine g_get (C := RX10) (T := TX10) (NN := 35) (ci := 10) hx hb hts hinX10 hown hE hG (k := 28) (by omega) rfl rfl 22 (by decide) (hts (.fieldLink RX10 142 "CommutatorModel" "lost" "I") (List.mem_of_getElem? (i := 2) rfl)) rfl (v := .int (A 28 22)) rfl dX10_lost_6 ?_
  refine g_top (y := zI (G 28 22)) (hM 28 22 (by omega) (by omega) (by omega)) ?_
  exact g_iret hx hb hr hlocks hG ⟨rfl, rfl, rfl⟩ dX10_lost_9

abbrev PX10_repeats (ad : Nat → Nat) (A : Nat → Nat → Int32) (J : Nat → Nat → Int64) (G : Nat → Nat → Int) : Option Value → (Nat → Nat → Int32) → (Nat → Nat → Int64) → Prop := fun v_ A1 J1 => (v_ = some (.int (zI (G 28 23))) ∧ gu A 28 34 (nI 0) = A1 ∧ J = J1)
set_option maxHeartbeats 4000000 in
set_option maxRecDepth 100000 in
theorem cX10_repeatsC (l : Launch) (D : va_G) (cy : Nat → ClassId) (base : Nat) (ad : Nat → Nat) (n : Nat) (A : Nat → Nat → Int32) (J : Nat → Nat → Int64) (G : Nat → Nat → Int) (hM : MRep A G) : gMet l yX10_repeats wsX10_repeats ({ frames := 0, cells := 0, slots := 0, locals := 0 } : Room) D cy base ad n A J [.ref (ad 28)] (PX10_repeats ad A J G) := by
  refine g_ofW (cc := cX10_repeats) (maxL := 1) (ret := (some .int)) (by decide) rfl (Nat.le_of_ble_eq_true rfl) ?_
  intro pM eM sM mM aM bM methM cM H locs ls hx hb hr hts hown hlocks hml hE hG hl
  have hl : lv_has ls 1 [(0, .ref (ad 28))] := hl
  have hinX10 : ∀ w ∈ u_ws RX10 TX10 35, w ∈ wsX10_repeats := by decide +kernel
  refine lv_aload_n hx hb dX10_repeats_0 rfl (lv_at hl 0 rfl) ?_
  refine lv_iconst (v := nI 0) hx hb dX10_repeats_1 (by decide) ?_
  refine g_puti (C := RX10) (T := TX10) (NN := 35) (ci := 10) hx hb hts hinX10 tyX10 tyX10_ok nmX10 hown hE hG (k := 28) (by omega) rfl rfl 34 (by decide) (hts (.fieldLink RX10 78 "CommutatorModel" "thrown" "I") (List.mem_of_getElem? (i := 1) rfl)) rfl rfl (ty := .int) (v := nI 0) (by decide +kernel) rfl rfl (Nat.le_of_ble_eq_true rfl) rfl dX10_repeats_2 (fun H locs hG => ?_)
  refine lv_aload_n hx hb dX10_repeats_5 rfl (lv_at hl 0 rfl) ?_
  refine g_get (C := RX10) (T := TX10) (NN := 35) (ci := 10) hx hb hts hinX10 hown hE hG (k := 28) (by omega) rfl rfl 23 (by decide) (hts (.fieldLink RX10 139 "CommutatorModel" "repeats" "I") (List.mem_of_getElem? (i := 2) rfl)) rfl (v := .int (A 28 23)) rfl dX10_repeats_6 ?_
  refine g_top (y := zI (G 28 23)) (hM 28 23 (by omega) (by omega) (by omega)) ?_
  exact g_iret hx hb hr hlocks hG ⟨rfl, rfl, rfl⟩ dX10_repeats_9

abbrev PX10_thrown (ad : Nat → Nat) (A : Nat → Nat → Int32) (J : Nat → Nat → Int64) (fq : Int) : Option Value → (Nat → Nat → Int32) → (Nat → Nat → Int64) → Prop := fun v_ A1 J1 => (v_ = some (.int (zI fq)) ∧ A = A1 ∧ J = J1)
set_option maxHeartbeats 4000000 in
set_option maxRecDepth 100000 in
theorem cX10_thrownC (l : Launch) (D : va_G) (cy : Nat → ClassId) (base : Nat) (ad : Nat → Nat) (n : Nat) (A : Nat → Nat → Int32) (J : Nat → Nat → Int64) (fq : Int) (hth : A 28 34 = zI fq) : gMet l yX10_thrown wsX10_thrown ({ frames := 0, cells := 0, slots := 0, locals := 0 } : Room) D cy base ad n A J [.ref (ad 28)] (PX10_thrown ad A J fq) := by
  refine g_ofW (cc := cX10_thrown) (maxL := 1) (ret := (some .int)) (by decide) rfl (Nat.le_of_ble_eq_true rfl) ?_
  intro pM eM sM mM aM bM methM cM H locs ls hx hb hr hts hown hlocks hml hE hG hl
  have hl : lv_has ls 1 [(0, .ref (ad 28))] := hl
  have hinX10 : ∀ w ∈ u_ws RX10 TX10 35, w ∈ wsX10_thrown := by decide +kernel
  refine lv_aload_n hx hb dX10_thrown_0 rfl (lv_at hl 0 rfl) ?_
  refine g_get (C := RX10) (T := TX10) (NN := 35) (ci := 10) hx hb hts hinX10 hown hE hG (k := 28) (by omega) rfl rfl 34 (by decide) (hts (.fieldLink RX10 78 "CommutatorModel" "thrown" "I") (List.mem_of_getElem? (i := 1) rfl)) rfl (v := .int (A 28 34)) rfl dX10_thrown_1 ?_
  refine g_top (y := zI fq) (hth) ?_
  exact g_iret hx hb hr hlocks hG ⟨rfl, rfl, rfl⟩ dX10_thrown_4

abbrev PX10_number (ad : Nat → Nat) (A : Nat → Nat → Int32) (J : Nat → Nat → Int64) (G : Nat → Nat → Int) : Option Value → (Nat → Nat → Int32) → (Nat → Nat → Int64) → Prop := fun v_ A1 J1 => (v_ = some (.int (zI (G 28 20))) ∧ gu A 28 34 (nI 0) = A1 ∧ J = J1 ∧ (G 28 21 ≠ 0)) ∨ (v_ = some (.int (nI 0)) ∧ gu A 28 34 (nI 1) = A1 ∧ J = J1 ∧ (G 28 21 = 0))
set_option maxHeartbeats 4000000 in
set_option maxRecDepth 100000 in
theorem cX10_numberC (l : Launch) (D : va_G) (cy : Nat → ClassId) (base : Nat) (ad : Nat → Nat) (n : Nat) (A : Nat → Nat → Int32) (J : Nat → Nat → Int64) (G : Nat → Nat → Int) (hM : MRep A G) (hr28_21 : 0 ≤ G 28 21 ∧ G 28 21 < 1000000) : gMet l yX10_number wsX10_number ({ frames := 1, cells := 0, slots := 0, locals := 21 } : Room) D cy base ad n A J [.ref (ad 28)] (PX10_number ad A J G) := by
  refine g_ofW (cc := cX10_number) (maxL := 1) (ret := (some .int)) (by decide) rfl (Nat.le_of_ble_eq_true rfl) ?_
  intro pM eM sM mM aM bM methM cM H locs ls hx hb hr hts hown hlocks hml hE hG hl
  have hl : lv_has ls 1 [(0, .ref (ad 28))] := hl
  have hinX10 : ∀ w ∈ u_ws RX10 TX10 35, w ∈ wsX10_number := by decide +kernel
  refine lv_aload_n hx hb dX10_number_0 rfl (lv_at hl 0 rfl) ?_
  refine lv_aload_n hx hb dX10_number_1 rfl (lv_at hl 0 rfl) ?_
  refine g_get (C := RX10) (T := TX10) (NN := 35) (ci := 10) hx hb hts hinX10 hown hE hG (k := 28) (by omega) rfl rfl 21 (by decide) (hts (.fieldLink RX10 145 "CommutatorModel" "frames" "I") (List.mem_of_getElem? (i := 1) rfl)) rfl (v := .int (A 28 21)) rfl dX10_number_2 ?_
  refine g_top (y := zI (G 28 21)) (hM 28 21 (by omega) (by omega) (by omega)) ?_
  refine lv_if_ne (tgt := 12) hx hb dX10_number_5 (by decide) (fun c5 => ?_) (fun c5 => ?_)
  · skip
    have c5 : ¬ ((zI (G 28 21)) = nI 0) := c5
    have c5 : ¬ ((G 28 21) = ((0 : Nat) : Int)) := fun z9 => c5 ((cmp_eq (zI_toInt (by omega) (by omega)) (nI_toInt (by omega))).mpr z9)
    refine lv_iconst (v := nI 0) hx hb dX10_number_12 (by decide) ?_
    refine g_callV (As := [.int (nI 0)]) (rest := []) (r := (RX10, TX10, 35)) ⟨hx, hb, hml, hown, hts⟩ hE hG (cX10_canC l D cy base ad n A J 0 (by first | assumption | omega)) (cwV 1 hts gX10_number_X10_can rfl rfl rfl (by decide +kernel) ⟨Nat.le_of_ble_eq_true rfl, Nat.le_of_ble_eq_true rfl⟩) (by omega) rfl rfl rfl hl.1 rfl (Nat.le_of_ble_eq_true rfl) dX10_number_13 ⟨Nat.zero_le _, Nat.zero_le _⟩ (fun v_ A13 J13 H locs hp hG => ?_)
    rcases hp with ⟨rfl, rfl, rfl, hC_13⟩ | ⟨rfl, rfl, rfl, hC_13⟩
    · refine W.eq (g2 := F0 mM 16 ls [.int (nI 1)]) rfl ?_
      refine lv_if_eq (tgt := 26) hx hb dX10_number_16 (by decide) (fun c16 => ?_) (fun c16 => ?_)
      · skip
        exact absurd c16 (by decide)
      · skip
        refine lv_aload_n hx hb dX10_number_19 rfl (lv_at hl 0 rfl) ?_
        refine g_get (C := RX10) (T := TX10) (NN := 35) (ci := 10) hx hb hts hinX10 hown hE hG (k := 28) (by omega) rfl rfl 20 (by decide) (hts (.fieldLink RX10 136 "CommutatorModel" "number" "I") (List.mem_of_getElem? (i := 2) rfl)) rfl (v := .int (A 28 20)) rfl dX10_number_20 ?_
        refine g_top (y := zI (G 28 20)) (hM 28 20 (by omega) (by omega) (by omega)) ?_
        refine lv_goto (tgt := 27) hx hb dX10_number_23 (by decide) ?_
        exact g_iret hx hb hr hlocks hG (by first | exact Or.inl ⟨rfl, rfl, rfl, (by first | omega | rfl | assumption)⟩ | exact Or.inr (⟨rfl, rfl, rfl, (by first | omega | rfl | assumption)⟩)) dX10_number_27
    · exact absurd hC_13 (by decide)
  · skip
    have c5 : (zI (G 28 21)) = nI 0 := c5
    have c5 : (G 28 21) = ((0 : Nat) : Int) := (cmp_eq (zI_toInt (by omega) (by omega)) (nI_toInt (by omega))).mp c5
    refine lv_iconst (v := nI 1) hx hb dX10_number_8 (by decide) ?_
    refine lv_goto (tgt := 13) hx hb dX10_number_9 (by decide) ?_
    refine g_callV (As := [.int (nI 1)]) (rest := []) (r := (RX10, TX10, 35)) ⟨hx, hb, hml, hown, hts⟩ hE hG (cX10_canC l D cy base ad n A J 1 (by first | assumption | omega)) (cwV 1 hts gX10_number_X10_can rfl rfl rfl (by decide +kernel) ⟨Nat.le_of_ble_eq_true rfl, Nat.le_of_ble_eq_true rfl⟩) (by omega) rfl rfl rfl hl.1 rfl (Nat.le_of_ble_eq_true rfl) dX10_number_13 ⟨Nat.zero_le _, Nat.zero_le _⟩ (fun v_ A13 J13 H locs hp hG => ?_)
    rcases hp with ⟨rfl, rfl, rfl, hC_13⟩ | ⟨rfl, rfl, rfl, hC_13⟩
    · exact absurd hC_13 (by decide)
    · refine W.eq (g2 := F0 mM 16 ls [.int (nI 0)]) rfl ?_
      refine lv_if_eq (tgt := 26) hx hb dX10_number_16 (by decide) (fun c16 => ?_) (fun c16 => ?_)
      · skip
        refine lv_iconst (v := nI 0) hx hb dX10_number_26 (by decide) ?_
        exact g_iret hx hb hr hlocks hG (by first | exact Or.inl ⟨rfl, rfl, rfl, (by first | omega | rfl | assumption)⟩ | exact Or.inr (⟨rfl, rfl, rfl, (by first | omega | rfl | assumption)⟩)) dX10_number_27
      · skip
        exact absurd c16 (by decide)

abbrev PX10_isBit (ad : Nat → Nat) (A : Nat → Nat → Int32) (J : Nat → Nat → Int64) (G : Nat → Nat → Int) (x : Int32) : Option Value → (Nat → Nat → Int32) → (Nat → Nat → Int64) → Prop := fun v_ A1 J1 => (v_ = some (.int (nI 1)) ∧ gu A 28 34 (nI 0) = A1 ∧ J = J1 ∧ (0 ≤ x.toInt ∧ x.toInt < G 28 10)) ∨ (v_ = some (.int (nI 0)) ∧ gu A 28 34 (nI 1) = A1 ∧ J = J1 ∧ (¬ (0 ≤ x.toInt ∧ x.toInt < G 28 10)))
set_option maxHeartbeats 4000000 in
set_option maxRecDepth 100000 in
theorem cX10_isBitC (l : Launch) (D : va_G) (cy : Nat → ClassId) (base : Nat) (ad : Nat → Nat) (n : Nat) (A : Nat → Nat → Int32) (J : Nat → Nat → Int64) (G : Nat → Nat → Int) (x : Int32) (hM : MRep A G) (hr28_10 : 0 ≤ G 28 10 ∧ G 28 10 < 1000000) : gMet l yX10_isBit wsX10_isBit ({ frames := 1, cells := 0, slots := 0, locals := 22 } : Room) D cy base ad n A J [.ref (ad 28), .int x] (PX10_isBit ad A J G x) := by
  refine g_ofW (cc := cX10_isBit) (maxL := 2) (ret := (some .boolean)) (by decide) rfl (Nat.le_of_ble_eq_true rfl) ?_
  intro pM eM sM mM aM bM methM cM H locs ls hx hb hr hts hown hlocks hml hE hG hl
  have hl : lv_has ls 2 [(0, .ref (ad 28)), (1, .int x)] := hl
  have hinX10 : ∀ w ∈ u_ws RX10 TX10 35, w ∈ wsX10_isBit := by decide +kernel
  refine lv_aload_n hx hb dX10_isBit_0 rfl (lv_at hl 0 rfl) ?_
  refine lv_iload_n hx hb dX10_isBit_1 rfl (lv_at hl 1 rfl) ?_
  refine lv_iconst (v := nI 0) hx hb dX10_isBit_2 (by decide) ?_
  refine lv_aload_n hx hb dX10_isBit_3 rfl (lv_at hl 0 rfl) ?_
  refine g_get (C := RX10) (T := TX10) (NN := 35) (ci := 10) hx hb hts hinX10 hown hE hG (k := 28) (by omega) rfl rfl 10 (by decide) (hts (.fieldLink RX10 117 "CommutatorModel" "onLine" "I") (List.mem_of_getElem? (i := 1) rfl)) rfl (v := .int (A 28 10)) rfl dX10_isBit_4 ?_
  refine g_top (y := zI (G 28 10)) (hM 28 10 (by omega) (by omega) (by omega)) ?_
  refine lv_iconst (v := nI 1) hx hb dX10_isBit_7 (by decide) ?_
  refine lv_isub hx hb dX10_isBit_8 ?_
  refine g_top (y := zI ((G 28 10) - 1)) (zI_sub_in _ _) ?_
  refine g_callS (As := [.int x, .int (nI 0), .int (zI ((G 28 10) - 1))]) (rest := [.ref (ad 28)]) ⟨hx, hb, hml, hown, hts⟩ hE hG (cX10_isInC l D cy base ad n A J x 0 ((G 28 10) - 1) (by first | assumption | omega) (by first | assumption | omega) (by first | assumption | omega) (by first | assumption | omega)) (va_cwS 3 hts gX10_isBit_X10_isIn rfl rfl rfl (by decide +kernel) ⟨Nat.le_of_ble_eq_true rfl, Nat.le_of_ble_eq_true rfl⟩) rfl hl.1 rfl (Nat.le_of_ble_eq_true rfl) dX10_isBit_9 ⟨Nat.zero_le _, Nat.zero_le _⟩ (fun v_ A9 J9 H locs hp hG => ?_)
  rcases hp with ⟨rfl, rfl, rfl, hC_9⟩ | ⟨rfl, rfl, rfl, hC_9⟩
  · refine W.eq (g2 := F0 mM 12 ls [.int (nI 1), .ref (ad 28)]) rfl ?_
    refine lv_if_eq (tgt := 19) hx hb dX10_isBit_12 (by decide) (fun c12 => ?_) (fun c12 => ?_)
    · skip
      exact absurd c12 (by decide)
    · skip
      refine lv_iconst (v := nI 0) hx hb dX10_isBit_15 (by decide) ?_
      refine lv_goto (tgt := 20) hx hb dX10_isBit_16 (by decide) ?_
      refine g_callV (As := [.int (nI 0)]) (rest := []) (r := (RX10, TX10, 35)) ⟨hx, hb, hml, hown, hts⟩ hE hG (cX10_canC l D cy base ad n A J 0 (by first | assumption | omega)) (cwV 1 hts gX10_isBit_X10_can rfl rfl rfl (by decide +kernel) ⟨Nat.le_of_ble_eq_true rfl, Nat.le_of_ble_eq_true rfl⟩) (by omega) rfl rfl rfl hl.1 rfl (Nat.le_of_ble_eq_true rfl) dX10_isBit_20 ⟨Nat.zero_le _, Nat.zero_le _⟩ (fun v_ A20 J20 H locs hp hG => ?_)
      rcases hp with ⟨rfl, rfl, rfl, hC_20⟩ | ⟨rfl, rfl, rfl, hC_20⟩
      · refine W.eq (g2 := F0 mM 23 ls [.int (nI 1)]) rfl ?_
        exact g_zret hx hb hr hlocks hG rfl (by first | exact Or.inl ⟨rfl, rfl, rfl, (by first | omega | rfl | assumption)⟩ | exact Or.inr (⟨rfl, rfl, rfl, (by first | omega | rfl | assumption)⟩)) dX10_isBit_23
      · exact absurd hC_20 (by decide)
  · refine W.eq (g2 := F0 mM 12 ls [.int (nI 0), .ref (ad 28)]) rfl ?_
    refine lv_if_eq (tgt := 19) hx hb dX10_isBit_12 (by decide) (fun c12 => ?_) (fun c12 => ?_)
    · skip
      refine lv_iconst (v := nI 1) hx hb dX10_isBit_19 (by decide) ?_
      refine g_callV (As := [.int (nI 1)]) (rest := []) (r := (RX10, TX10, 35)) ⟨hx, hb, hml, hown, hts⟩ hE hG (cX10_canC l D cy base ad n A J 1 (by first | assumption | omega)) (cwV 1 hts gX10_isBit_X10_can rfl rfl rfl (by decide +kernel) ⟨Nat.le_of_ble_eq_true rfl, Nat.le_of_ble_eq_true rfl⟩) (by omega) rfl rfl rfl hl.1 rfl (Nat.le_of_ble_eq_true rfl) dX10_isBit_20 ⟨Nat.zero_le _, Nat.zero_le _⟩ (fun v_ A20 J20 H locs hp hG => ?_)
      rcases hp with ⟨rfl, rfl, rfl, hC_20⟩ | ⟨rfl, rfl, rfl, hC_20⟩
      · exact absurd hC_20 (by decide)
      · refine W.eq (g2 := F0 mM 23 ls [.int (nI 0)]) rfl ?_
        exact g_zret hx hb hr hlocks hG rfl (by first | exact Or.inl ⟨rfl, rfl, rfl, (by first | omega | rfl | assumption)⟩ | exact Or.inr (⟨rfl, rfl, rfl, (by first | omega | rfl | assumption)⟩)) dX10_isBit_23
    · skip
      exact absurd c12 (by decide)

abbrev PX10_bit (ad : Nat → Nat) (A : Nat → Nat → Int32) (J : Nat → Nat → Int64) (G : Nat → Nat → Int) (x : Int32) : Option Value → (Nat → Nat → Int32) → (Nat → Nat → Int64) → Prop := fun v_ A1 J1 => (∃ (jq : Nat), v_ = some (.int (zI (G 37 jq))) ∧ gu A 28 34 (nI 0) = A1 ∧ J = J1 ∧ (x = nI jq) ∧ ((jq : Int) < G 28 10)) ∨ (v_ = some (.int (nI 0)) ∧ gu A 28 34 (nI 1) = A1 ∧ J = J1 ∧ (¬ (0 ≤ x.toInt ∧ x.toInt < G 28 10)))
set_option maxHeartbeats 4000000 in
set_option maxRecDepth 100000 in
theorem cX10_bitC (l : Launch) (D : va_G) (cy : Nat → ClassId) (base : Nat) (ad : Nat → Nat) (n : Nat) (A : Nat → Nat → Int32) (J : Nat → Nat → Int64) (G : Nat → Nat → Int) (x : Int32) (hM : MRep A G) (hol : 0 ≤ G 28 10 ∧ G 28 10 ≤ 8000) : gMet l yX10_bit wsX10_bit ({ frames := 2, cells := 0, slots := 0, locals := 43 } : Room) D cy base ad n A J [.ref (ad 28), .int x] (PX10_bit ad A J G x) := by
  refine g_ofW (cc := cX10_bit) (maxL := 2) (ret := (some .int)) (by decide) rfl (Nat.le_of_ble_eq_true rfl) ?_
  intro pM eM sM mM aM bM methM cM H locs ls hx hb hr hts hown hlocks hml hE hG hl
  have hl : lv_has ls 2 [(0, .ref (ad 28)), (1, .int x)] := hl
  have hinX10 : ∀ w ∈ u_ws RX10 TX10 35, w ∈ wsX10_bit := by decide +kernel
  refine lv_aload_n hx hb dX10_bit_0 rfl (lv_at hl 0 rfl) ?_
  refine lv_iload_n hx hb dX10_bit_1 rfl (lv_at hl 1 rfl) ?_
  refine g_callV (As := [.int x]) (rest := []) (r := (RX10, TX10, 35)) ⟨hx, hb, hml, hown, hts⟩ hE hG (cX10_isBitC l D cy base ad n A J G x (by first | exact hM | exact hM.st | exact hM.pa | exact hM.th _ | exact (hM.th _).st | exact (hM.th _).pa | exact (hM.th _).th _ | exact ((hM.th _).th _).st) (by omega)) (cwV 1 hts gX10_bit_X10_isBit rfl rfl rfl (by decide +kernel) ⟨Nat.le_of_ble_eq_true rfl, Nat.le_of_ble_eq_true rfl⟩) (by omega) rfl rfl rfl hl.1 rfl (Nat.le_of_ble_eq_true rfl) dX10_bit_2 ⟨Nat.zero_le _, Nat.zero_le _⟩ (fun v_ A2 J2 H locs hp hG => ?_)
  rcases hp with ⟨rfl, rfl, rfl, hC_2⟩ | ⟨rfl, rfl, rfl, hC_2⟩
  · refine W.eq (g2 := F0 mM 5 ls [.int (nI 1)]) rfl ?_
    obtain ⟨jq, hjq, rfl⟩ := z_nat (x := x) (by omega)
    have hjqt : (nI jq).toInt = (jq : Int) := nI_toInt hjq
    refine lv_if_eq (tgt := 17) hx hb dX10_bit_5 (by decide) (fun c5 => ?_) (fun c5 => ?_)
    · skip
      exact absurd c5 (by decide)
    · skip
      refine lv_aload_n hx hb dX10_bit_8 rfl (lv_at hl 0 rfl) ?_
      refine g_get (C := RX10) (T := TX10) (NN := 35) (ci := 10) hx hb hts hinX10 hown hE hG (k := 28) (by omega) rfl rfl 11 (by decide) (hts (.fieldLink RX10 34 "CommutatorModel" "line" "[I") (List.mem_of_getElem? (i := 1) rfl)) rfl (v := .ref (ad 37)) rfl dX10_bit_9 ?_
      refine lv_iload_n hx hb dX10_bit_12 rfl (lv_at hl 1 rfl) ?_
      refine g_iald hx hb hE hG (k := 37) (by omega) rfl jq (rfl) (by omega) (by omega) dX10_bit_13 ?_
      refine g_top (y := A 37 jq) (by first | rfl | (simp [gu_at]; done) | (rw [gu_at]; simp; omega)) ?_
      refine g_top (y := zI (G 37 jq)) (hM 37 jq (by omega) (by omega) (by omega)) ?_
      refine lv_goto (tgt := 18) hx hb dX10_bit_14 (by decide) ?_
      exact g_iret hx hb hr hlocks hG (by first | exact Or.inl ⟨_, rfl, rfl, rfl, (by first | omega | rfl | assumption), (by first | omega | rfl | assumption)⟩ | exact Or.inr (⟨rfl, rfl, rfl, (by first | omega | rfl | assumption)⟩)) dX10_bit_18
  · refine W.eq (g2 := F0 mM 5 ls [.int (nI 0)]) rfl ?_
    refine lv_if_eq (tgt := 17) hx hb dX10_bit_5 (by decide) (fun c5 => ?_) (fun c5 => ?_)
    · skip
      refine lv_iconst (v := nI 0) hx hb dX10_bit_17 (by decide) ?_
      exact g_iret hx hb hr hlocks hG (by first | exact Or.inl ⟨_, rfl, rfl, rfl, (by first | omega | rfl | assumption), (by first | omega | rfl | assumption)⟩ | exact Or.inr (⟨rfl, rfl, rfl, (by first | omega | rfl | assumption)⟩)) dX10_bit_18
    · skip
      exact absurd c5 (by decide)

abbrev PX10_flip (ad : Nat → Nat) (A : Nat → Nat → Int32) (J : Nat → Nat → Int64) (G : Nat → Nat → Int) (x : Int32) : Option Value → (Nat → Nat → Int32) → (Nat → Nat → Int64) → Prop := fun v_ A1 J1 => (∃ (jq : Nat), v_ = some (.int (zI (1 - G 37 jq))) ∧ gu (gu A 28 34 (nI 0)) 37 jq (zI (1 - G 37 jq)) = A1 ∧ J = J1 ∧ (x = nI jq) ∧ ((jq : Int) < G 28 10)) ∨ (v_ = some (.int (nI 0)) ∧ gu A 28 34 (nI 1) = A1 ∧ J = J1 ∧ (¬ (0 ≤ x.toInt ∧ x.toInt < G 28 10)))
set_option maxHeartbeats 4000000 in
set_option maxRecDepth 100000 in
theorem cX10_flipC (l : Launch) (D : va_G) (cy : Nat → ClassId) (base : Nat) (ad : Nat → Nat) (n : Nat) (A : Nat → Nat → Int32) (J : Nat → Nat → Int64) (G : Nat → Nat → Int) (x : Int32) (hM : MRep A G) (hol : 0 ≤ G 28 10 ∧ G 28 10 ≤ 8000) : gMet l yX10_flip wsX10_flip ({ frames := 2, cells := 0, slots := 0, locals := 43 } : Room) D cy base ad n A J [.ref (ad 28), .int x] (PX10_flip ad A J G x) := by
  refine g_ofW (cc := cX10_flip) (maxL := 2) (ret := (some .int)) (by decide) rfl (Nat.le_of_ble_eq_true rfl) ?_
  intro pM eM sM mM aM bM methM cM H locs ls hx hb hr hts hown hlocks hml hE hG hl
  have hl : lv_has ls 2 [(0, .ref (ad 28)), (1, .int x)] := hl
  have hinX10 : ∀ w ∈ u_ws RX10 TX10 35, w ∈ wsX10_flip := by decide +kernel
  refine lv_aload_n hx hb dX10_flip_0 rfl (lv_at hl 0 rfl) ?_
  refine lv_iload_n hx hb dX10_flip_1 rfl (lv_at hl 1 rfl) ?_
  refine g_callV (As := [.int x]) (rest := []) (r := (RX10, TX10, 35)) ⟨hx, hb, hml, hown, hts⟩ hE hG (cX10_isBitC l D cy base ad n A J G x (by first | exact hM | exact hM.st | exact hM.pa | exact hM.th _ | exact (hM.th _).st | exact (hM.th _).pa | exact (hM.th _).th _ | exact ((hM.th _).th _).st) (by omega)) (cwV 1 hts gX10_flip_X10_isBit rfl rfl rfl (by decide +kernel) ⟨Nat.le_of_ble_eq_true rfl, Nat.le_of_ble_eq_true rfl⟩) (by omega) rfl rfl rfl hl.1 rfl (Nat.le_of_ble_eq_true rfl) dX10_flip_2 ⟨Nat.zero_le _, Nat.zero_le _⟩ (fun v_ A2 J2 H locs hp hG => ?_)
  rcases hp with ⟨rfl, rfl, rfl, hC_2⟩ | ⟨rfl, rfl, rfl, hC_2⟩
  · refine W.eq (g2 := F0 mM 5 ls [.int (nI 1)]) rfl ?_
    obtain ⟨jq, hjq, rfl⟩ := z_nat (x := x) (by omega)
    have hjqt : (nI jq).toInt = (jq : Int) := nI_toInt hjq
    refine lv_if_ne (tgt := 10) hx hb dX10_flip_5 (by decide) (fun c5 => ?_) (fun c5 => ?_)
    · skip
      refine lv_aload_n hx hb dX10_flip_10 rfl (lv_at hl 0 rfl) ?_
      refine g_get (C := RX10) (T := TX10) (NN := 35) (ci := 10) hx hb hts hinX10 hown hE hG (k := 28) (by omega) rfl rfl 11 (by decide) (hts (.fieldLink RX10 34 "CommutatorModel" "line" "[I") (List.mem_of_getElem? (i := 1) rfl)) rfl (v := .ref (ad 37)) rfl dX10_flip_11 ?_
      refine lv_iload_n hx hb dX10_flip_14 rfl (lv_at hl 1 rfl) ?_
      refine lv_iconst (v := nI 1) hx hb dX10_flip_15 (by decide) ?_
      refine lv_aload_n hx hb dX10_flip_16 rfl (lv_at hl 0 rfl) ?_
      refine g_get (C := RX10) (T := TX10) (NN := 35) (ci := 10) hx hb hts hinX10 hown hE hG (k := 28) (by omega) rfl rfl 11 (by decide) (hts (.fieldLink RX10 34 "CommutatorModel" "line" "[I") (List.mem_of_getElem? (i := 1) rfl)) rfl (v := .ref (ad 37)) rfl dX10_flip_17 ?_
      refine lv_iload_n hx hb dX10_flip_20 rfl (lv_at hl 1 rfl) ?_
      refine g_iald hx hb hE hG (k := 37) (by omega) rfl jq (rfl) (by omega) (by omega) dX10_flip_21 ?_
      refine g_top (y := A 37 jq) (by first | rfl | (simp [gu_at]; done) | (rw [gu_at]; simp; omega)) ?_
      refine g_top (y := zI (G 37 jq)) (hM 37 jq (by omega) (by omega) (by omega)) ?_
      refine lv_isub hx hb dX10_flip_22 ?_
      refine g_top (y := zI (1 - (G 37 jq))) (zI_sub_ni _ _) ?_
      refine g_iast hx hb hE hG (k := 37) (by omega) (fun _ => rfl) jq (rfl) (by omega) (by omega) dX10_flip_23 (fun H locs hG => ?_)
      refine lv_aload_n hx hb dX10_flip_24 rfl (lv_at hl 0 rfl) ?_
      refine g_get (C := RX10) (T := TX10) (NN := 35) (ci := 10) hx hb hts hinX10 hown hE hG (k := 28) (by omega) rfl rfl 11 (by decide) (hts (.fieldLink RX10 34 "CommutatorModel" "line" "[I") (List.mem_of_getElem? (i := 1) rfl)) rfl (v := .ref (ad 37)) rfl dX10_flip_25 ?_
      refine lv_iload_n hx hb dX10_flip_28 rfl (lv_at hl 1 rfl) ?_
      refine g_iald hx hb hE hG (k := 37) (by omega) rfl jq (rfl) (by omega) (by omega) dX10_flip_29 ?_
      refine g_top (y := zI (1 - (G 37 jq))) (by first | rfl | (simp [gu_at]; done) | (rw [gu_at]; simp; omega)) ?_
      exact g_iret hx hb hr hlocks hG (by first | exact Or.inl ⟨_, rfl, rfl, rfl, (by first | omega | rfl | assumption), (by first | omega | rfl | assumption)⟩ | exact Or.inr (⟨rfl, rfl, rfl, (by first | omega | rfl | assumption)⟩)) dX10_flip_30
    · skip
      exact absurd c5 (by decide)
  · refine W.eq (g2 := F0 mM 5 ls [.int (nI 0)]) rfl ?_
    refine lv_if_ne (tgt := 10) hx hb dX10_flip_5 (by decide) (fun c5 => ?_) (fun c5 => ?_)
    · skip
      exact absurd c5 (by decide)
    · skip
      refine lv_iconst (v := nI 0) hx hb dX10_flip_8 (by decide) ?_
      exact g_iret hx hb hr hlocks hG (by first | exact Or.inl ⟨_, rfl, rfl, rfl, (by first | omega | rfl | assumption), (by first | omega | rfl | assumption)⟩ | exact Or.inr (⟨rfl, rfl, rfl, (by first | omega | rfl | assumption)⟩)) dX10_flip_9

abbrev PX10_isOperand (ad : Nat → Nat) (A : Nat → Nat → Int32) (J : Nat → Nat → Int64) (x : Int32) : Option Value → (Nat → Nat → Int32) → (Nat → Nat → Int64) → Prop := fun v_ A1 J1 => (v_ = some (.int (nI 1)) ∧ A = A1 ∧ J = J1 ∧ ((0 ≤ x.toInt ∧ x.toInt ≤ 11) ∨ (100 ≤ x.toInt ∧ x.toInt ≤ 107))) ∨ (v_ = some (.int (nI 0)) ∧ A = A1 ∧ J = J1 ∧ (¬ ((0 ≤ x.toInt ∧ x.toInt ≤ 11) ∨ (100 ≤ x.toInt ∧ x.toInt ≤ 107))))
set_option maxHeartbeats 4000000 in
set_option maxRecDepth 100000 in
theorem cX10_isOperandC (l : Launch) (D : va_G) (cy : Nat → ClassId) (base : Nat) (ad : Nat → Nat) (n : Nat) (A : Nat → Nat → Int32) (J : Nat → Nat → Int64) (x : Int32)  : gMet l yX10_isOperand wsX10_isOperand ({ frames := 1, cells := 0, slots := 0, locals := 22 } : Room) D cy base ad n A J [.int x] (PX10_isOperand ad A J x) := by
  refine g_ofW (cc := cX10_isOperand) (maxL := 1) (ret := (some .boolean)) (by decide) rfl (Nat.le_of_ble_eq_true rfl) ?_
  intro pM eM sM mM aM bM methM cM H locs ls hx hb hr hts hown hlocks hml hE hG hl
  have hl : lv_has ls 1 [(0, .int x)] := hl
  refine lv_iload_n hx hb dX10_isOperand_0 rfl (lv_at hl 0 rfl) ?_
  refine lv_iconst (v := nI 0) hx hb dX10_isOperand_1 (by decide) ?_
  refine lv_bipush (v := nI 11) hx hb dX10_isOperand_2 (by decide) ?_
  refine g_callS (As := [.int x, .int (nI 0), .int (nI 11)]) (rest := []) ⟨hx, hb, hml, hown, hts⟩ hE hG (cX10_isInC l D cy base ad n A J x 0 11 (by first | assumption | omega) (by first | assumption | omega) (by first | assumption | omega) (by first | assumption | omega)) (va_cwS 3 hts gX10_isOperand_X10_isIn rfl rfl rfl (by decide +kernel) ⟨Nat.le_of_ble_eq_true rfl, Nat.le_of_ble_eq_true rfl⟩) rfl hl.1 rfl (Nat.le_of_ble_eq_true rfl) dX10_isOperand_4 ⟨Nat.zero_le _, Nat.zero_le _⟩ (fun v_ A4 J4 H locs hp hG => ?_)
  rcases hp with ⟨rfl, rfl, rfl, hC_4⟩ | ⟨rfl, rfl, rfl, hC_4⟩
  · refine W.eq (g2 := F0 mM 7 ls [.int (nI 1)]) rfl ?_
    refine lv_if_ne (tgt := 21) hx hb dX10_isOperand_7 (by decide) (fun c7 => ?_) (fun c7 => ?_)
    · skip
      refine lv_iconst (v := nI 1) hx hb dX10_isOperand_21 (by decide) ?_
      refine lv_goto (tgt := 26) hx hb dX10_isOperand_22 (by decide) ?_
      exact g_zret hx hb hr hlocks hG rfl (by first | exact Or.inl ⟨rfl, rfl, rfl, (by first | omega | rfl | assumption)⟩ | exact Or.inr (⟨rfl, rfl, rfl, (by first | omega | rfl | assumption)⟩)) dX10_isOperand_26
    · skip
      exact absurd c7 (by decide)
  · refine W.eq (g2 := F0 mM 7 ls [.int (nI 0)]) rfl ?_
    refine lv_if_ne (tgt := 21) hx hb dX10_isOperand_7 (by decide) (fun c7 => ?_) (fun c7 => ?_)
    · skip
      exact absurd c7 (by decide)
    · skip
      refine lv_iload_n hx hb dX10_isOperand_10 rfl (lv_at hl 0 rfl) ?_
      refine lv_bipush (v := nI 100) hx hb dX10_isOperand_11 (by decide) ?_
      refine lv_bipush (v := nI 107) hx hb dX10_isOperand_13 (by decide) ?_
      refine g_callS (As := [.int x, .int (nI 100), .int (nI 107)]) (rest := []) ⟨hx, hb, hml, hown, hts⟩ hE hG (cX10_isInC l D cy base ad n A J x 100 107 (by first | assumption | omega) (by first | assumption | omega) (by first | assumption | omega) (by first | assumption | omega)) (va_cwS 3 hts gX10_isOperand_X10_isIn rfl rfl rfl (by decide +kernel) ⟨Nat.le_of_ble_eq_true rfl, Nat.le_of_ble_eq_true rfl⟩) rfl hl.1 rfl (Nat.le_of_ble_eq_true rfl) dX10_isOperand_15 ⟨Nat.zero_le _, Nat.zero_le _⟩ (fun v_ A15 J15 H locs hp hG => ?_)
      rcases hp with ⟨rfl, rfl, rfl, hC_15⟩ | ⟨rfl, rfl, rfl, hC_15⟩
      · refine W.eq (g2 := F0 mM 18 ls [.int (nI 1)]) rfl ?_
        refine lv_if_eq (tgt := 25) hx hb dX10_isOperand_18 (by decide) (fun c18 => ?_) (fun c18 => ?_)
        · skip
          exact absurd c18 (by decide)
        · skip
          refine lv_iconst (v := nI 1) hx hb dX10_isOperand_21 (by decide) ?_
          refine lv_goto (tgt := 26) hx hb dX10_isOperand_22 (by decide) ?_
          exact g_zret hx hb hr hlocks hG rfl (by first | exact Or.inl ⟨rfl, rfl, rfl, (by first | omega | rfl | assumption)⟩ | exact Or.inr (⟨rfl, rfl, rfl, (by first | omega | rfl | assumption)⟩)) dX10_isOperand_26
      · refine W.eq (g2 := F0 mM 18 ls [.int (nI 0)]) rfl ?_
        refine lv_if_eq (tgt := 25) hx hb dX10_isOperand_18 (by decide) (fun c18 => ?_) (fun c18 => ?_)
        · skip
          refine lv_iconst (v := nI 0) hx hb dX10_isOperand_25 (by decide) ?_
          exact g_zret hx hb hr hlocks hG rfl (by first | exact Or.inl ⟨rfl, rfl, rfl, (by first | omega | rfl | assumption)⟩ | exact Or.inr (⟨rfl, rfl, rfl, (by first | omega | rfl | assumption)⟩)) dX10_isOperand_26
        · skip
          exact absurd c18 (by decide)

abbrev PX10_place (ad : Nat → Nat) (A : Nat → Nat → Int32) (J : Nat → Nat → Int64) (G : Nat → Nat → Int) (x : Int32) : Option Value → (Nat → Nat → Int32) → (Nat → Nat → Int64) → Prop := fun v_ A1 J1 => (∃ (jq : Nat), v_ = some (.int (zI (100 * G 33 jq + G 34 jq))) ∧ gu A 28 34 (nI 0) = A1 ∧ J = J1 ∧ (x = nI jq) ∧ ((jq : Int) < G 28 0)) ∨ (v_ = some (.int (nI 0)) ∧ gu A 28 34 (nI 1) = A1 ∧ J = J1 ∧ (¬ (0 ≤ x.toInt ∧ x.toInt < G 28 0)))
set_option maxHeartbeats 4000000 in
set_option maxRecDepth 100000 in
theorem cX10_placeC (l : Launch) (D : va_G) (cy : Nat → ClassId) (base : Nat) (ad : Nat → Nat) (n : Nat) (A : Nat → Nat → Int32) (J : Nat → Nat → Int64) (G : Nat → Nat → Int) (x : Int32) (hM : MRep A G) (hn : 0 ≤ G 28 0 ∧ G 28 0 ≤ 12) : gMet l yX10_place wsX10_place ({ frames := 2, cells := 0, slots := 0, locals := 43 } : Room) D cy base ad n A J [.ref (ad 28), .int x] (PX10_place ad A J G x) := by
  refine g_ofW (cc := cX10_place) (maxL := 2) (ret := (some .int)) (by decide) rfl (Nat.le_of_ble_eq_true rfl) ?_
  intro pM eM sM mM aM bM methM cM H locs ls hx hb hr hts hown hlocks hml hE hG hl
  have hl : lv_has ls 2 [(0, .ref (ad 28)), (1, .int x)] := hl
  have hinX10 : ∀ w ∈ u_ws RX10 TX10 35, w ∈ wsX10_place := by decide +kernel
  refine lv_aload_n hx hb dX10_place_0 rfl (lv_at hl 0 rfl) ?_
  refine lv_aload_n hx hb dX10_place_1 rfl (lv_at hl 0 rfl) ?_
  refine lv_iload_n hx hb dX10_place_2 rfl (lv_at hl 1 rfl) ?_
  refine g_callV (As := [.int x]) (rest := [.ref (ad 28)]) (r := (RX10, TX10, 35)) ⟨hx, hb, hml, hown, hts⟩ hE hG (cX10_isPointC l D cy base ad n A J G x (by first | exact hM | exact hM.st | exact hM.pa | exact hM.th _ | exact (hM.th _).st | exact (hM.th _).pa | exact (hM.th _).th _ | exact ((hM.th _).th _).st) (by first | assumption | omega)) (cwV 1 hts gX10_place_X10_isPoint rfl rfl rfl (by decide +kernel) ⟨Nat.le_of_ble_eq_true rfl, Nat.le_of_ble_eq_true rfl⟩) (by omega) rfl rfl rfl hl.1 rfl (Nat.le_of_ble_eq_true rfl) dX10_place_3 ⟨Nat.zero_le _, Nat.zero_le _⟩ (fun v_ A3 J3 H locs hp hG => ?_)
  rcases hp with ⟨rfl, rfl, rfl, hC_3⟩ | ⟨rfl, rfl, rfl, hC_3⟩
  · refine W.eq (g2 := F0 mM 6 ls [.int (nI 1), .ref (ad 28)]) rfl ?_
    obtain ⟨jq, hjq, rfl⟩ := z_nat (x := x) (by omega)
    have hjqt : (nI jq).toInt = (jq : Int) := nI_toInt hjq
    refine lv_if_eq (tgt := 13) hx hb dX10_place_6 (by decide) (fun c6 => ?_) (fun c6 => ?_)
    · skip
      exact absurd c6 (by decide)
    · skip
      refine lv_iconst (v := nI 0) hx hb dX10_place_9 (by decide) ?_
      refine lv_goto (tgt := 14) hx hb dX10_place_10 (by decide) ?_
      refine g_callV (As := [.int (nI 0)]) (rest := []) (r := (RX10, TX10, 35)) ⟨hx, hb, hml, hown, hts⟩ hE hG (cX10_canC l D cy base ad n A J 0 (by first | assumption | omega)) (cwV 1 hts gX10_place_X10_can rfl rfl rfl (by decide +kernel) ⟨Nat.le_of_ble_eq_true rfl, Nat.le_of_ble_eq_true rfl⟩) (by omega) rfl rfl rfl hl.1 rfl (Nat.le_of_ble_eq_true rfl) dX10_place_14 ⟨Nat.zero_le _, Nat.zero_le _⟩ (fun v_ A14 J14 H locs hp hG => ?_)
      rcases hp with ⟨rfl, rfl, rfl, hC_14⟩ | ⟨rfl, rfl, rfl, hC_14⟩
      · refine W.eq (g2 := F0 mM 17 ls [.int (nI 1)]) rfl ?_
        refine lv_if_eq (tgt := 39) hx hb dX10_place_17 (by decide) (fun c17 => ?_) (fun c17 => ?_)
        · skip
          exact absurd c17 (by decide)
        · skip
          refine lv_bipush (v := nI 100) hx hb dX10_place_20 (by decide) ?_
          refine lv_aload_n hx hb dX10_place_22 rfl (lv_at hl 0 rfl) ?_
          refine g_get (C := RX10) (T := TX10) (NN := 35) (ci := 10) hx hb hts hinX10 hown hE hG (k := 28) (by omega) rfl rfl 5 (by decide) (hts (.fieldLink RX10 22 "CommutatorModel" "phase" "[I") (List.mem_of_getElem? (i := 1) rfl)) rfl (v := .ref (ad 33)) rfl dX10_place_23 ?_
          refine lv_iload_n hx hb dX10_place_26 rfl (lv_at hl 1 rfl) ?_
          refine g_iald hx hb hE hG (k := 33) (by omega) rfl jq (rfl) (by omega) (by omega) dX10_place_27 ?_
          refine g_top (y := A 33 jq) (by first | rfl | (simp [gu_at]; done) | (rw [gu_at]; simp; omega)) ?_
          refine g_top (y := zI (G 33 jq)) (hM 33 jq (by omega) (by omega) (by omega)) ?_
          refine lv_imul hx hb dX10_place_28 ?_
          refine g_top (y := zI (100 * (G 33 jq))) (zI_mul_ni _ _) ?_
          refine lv_aload_n hx hb dX10_place_29 rfl (lv_at hl 0 rfl) ?_
          refine g_get (C := RX10) (T := TX10) (NN := 35) (ci := 10) hx hb hts hinX10 hown hE hG (k := 28) (by omega) rfl rfl 6 (by decide) (hts (.fieldLink RX10 25 "CommutatorModel" "offset" "[I") (List.mem_of_getElem? (i := 2) rfl)) rfl (v := .ref (ad 34)) rfl dX10_place_30 ?_
          refine lv_iload_n hx hb dX10_place_33 rfl (lv_at hl 1 rfl) ?_
          refine g_iald hx hb hE hG (k := 34) (by omega) rfl jq (rfl) (by omega) (by omega) dX10_place_34 ?_
          refine g_top (y := A 34 jq) (by first | rfl | (simp [gu_at]; done) | (rw [gu_at]; simp; omega)) ?_
          refine g_top (y := zI (G 34 jq)) (hM 34 jq (by omega) (by omega) (by omega)) ?_
          refine lv_iadd hx hb dX10_place_35 ?_
          refine g_top (y := zI ((100 * (G 33 jq)) + (G 34 jq))) (zI_add _ _) ?_
          refine lv_goto (tgt := 40) hx hb dX10_place_36 (by decide) ?_
          exact g_iret hx hb hr hlocks hG (by first | exact Or.inl ⟨_, rfl, rfl, rfl, (by first | omega | rfl | assumption), (by first | omega | rfl | assumption)⟩ | exact Or.inr (⟨rfl, rfl, rfl, (by first | omega | rfl | assumption)⟩)) dX10_place_40
      · exact absurd hC_14 (by decide)
  · refine W.eq (g2 := F0 mM 6 ls [.int (nI 0), .ref (ad 28)]) rfl ?_
    refine lv_if_eq (tgt := 13) hx hb dX10_place_6 (by decide) (fun c6 => ?_) (fun c6 => ?_)
    · skip
      refine lv_iconst (v := nI 1) hx hb dX10_place_13 (by decide) ?_
      refine g_callV (As := [.int (nI 1)]) (rest := []) (r := (RX10, TX10, 35)) ⟨hx, hb, hml, hown, hts⟩ hE hG (cX10_canC l D cy base ad n A J 1 (by first | assumption | omega)) (cwV 1 hts gX10_place_X10_can rfl rfl rfl (by decide +kernel) ⟨Nat.le_of_ble_eq_true rfl, Nat.le_of_ble_eq_true rfl⟩) (by omega) rfl rfl rfl hl.1 rfl (Nat.le_of_ble_eq_true rfl) dX10_place_14 ⟨Nat.zero_le _, Nat.zero_le _⟩ (fun v_ A14 J14 H locs hp hG => ?_)
      rcases hp with ⟨rfl, rfl, rfl, hC_14⟩ | ⟨rfl, rfl, rfl, hC_14⟩
      · exact absurd hC_14 (by decide)
      · refine W.eq (g2 := F0 mM 17 ls [.int (nI 0)]) rfl ?_
        refine lv_if_eq (tgt := 39) hx hb dX10_place_17 (by decide) (fun c17 => ?_) (fun c17 => ?_)
        · skip
          refine lv_iconst (v := nI 0) hx hb dX10_place_39 (by decide) ?_
          exact g_iret hx hb hr hlocks hG (by first | exact Or.inl ⟨_, rfl, rfl, rfl, (by first | omega | rfl | assumption), (by first | omega | rfl | assumption)⟩ | exact Or.inr (⟨rfl, rfl, rfl, (by first | omega | rfl | assumption)⟩)) dX10_place_40
        · skip
          exact absurd c17 (by decide)
    · skip
      exact absurd c6 (by decide)

abbrev PX10_samples (ad : Nat → Nat) (A : Nat → Nat → Int32) (J : Nat → Nat → Int64) (G : Nat → Nat → Int) (x : Int32) : Option Value → (Nat → Nat → Int32) → (Nat → Nat → Int64) → Prop := fun v_ A1 J1 => (∃ (jq : Nat), v_ = some (.int (zI (G 41 jq))) ∧ gu A 28 34 (nI 0) = A1 ∧ J = J1 ∧ (x = nI jq) ∧ ((jq : Int) < G 28 0)) ∨ (v_ = some (.int (nI 0)) ∧ gu A 28 34 (nI 1) = A1 ∧ J = J1 ∧ (¬ (0 ≤ x.toInt ∧ x.toInt < G 28 0)))
set_option maxHeartbeats 4000000 in
set_option maxRecDepth 100000 in
theorem cX10_samplesC (l : Launch) (D : va_G) (cy : Nat → ClassId) (base : Nat) (ad : Nat → Nat) (n : Nat) (A : Nat → Nat → Int32) (J : Nat → Nat → Int64) (G : Nat → Nat → Int) (x : Int32) (hM : MRep A G) (hn : 0 ≤ G 28 0 ∧ G 28 0 ≤ 12) : gMet l yX10_samples wsX10_samples ({ frames := 2, cells := 0, slots := 0, locals := 43 } : Room) D cy base ad n A J [.ref (ad 28), .int x] (PX10_samples ad A J G x) := by
  refine g_ofW (cc := cX10_samples) (maxL := 2) (ret := (some .int)) (by decide) rfl (Nat.le_of_ble_eq_true rfl) ?_
  intro pM eM sM mM aM bM methM cM H locs ls hx hb hr hts hown hlocks hml hE hG hl
  have hl : lv_has ls 2 [(0, .ref (ad 28)), (1, .int x)] := hl
  have hinX10 : ∀ w ∈ u_ws RX10 TX10 35, w ∈ wsX10_samples := by decide +kernel
  refine lv_aload_n hx hb dX10_samples_0 rfl (lv_at hl 0 rfl) ?_
  refine lv_aload_n hx hb dX10_samples_1 rfl (lv_at hl 0 rfl) ?_
  refine lv_iload_n hx hb dX10_samples_2 rfl (lv_at hl 1 rfl) ?_
  refine g_callV (As := [.int x]) (rest := [.ref (ad 28)]) (r := (RX10, TX10, 35)) ⟨hx, hb, hml, hown, hts⟩ hE hG (cX10_isPointC l D cy base ad n A J G x (by first | exact hM | exact hM.st | exact hM.pa | exact hM.th _ | exact (hM.th _).st | exact (hM.th _).pa | exact (hM.th _).th _ | exact ((hM.th _).th _).st) (by first | assumption | omega)) (cwV 1 hts gX10_samples_X10_isPoint rfl rfl rfl (by decide +kernel) ⟨Nat.le_of_ble_eq_true rfl, Nat.le_of_ble_eq_true rfl⟩) (by omega) rfl rfl rfl hl.1 rfl (Nat.le_of_ble_eq_true rfl) dX10_samples_3 ⟨Nat.zero_le _, Nat.zero_le _⟩ (fun v_ A3 J3 H locs hp hG => ?_)
  rcases hp with ⟨rfl, rfl, rfl, hC_3⟩ | ⟨rfl, rfl, rfl, hC_3⟩
  · refine W.eq (g2 := F0 mM 6 ls [.int (nI 1), .ref (ad 28)]) rfl ?_
    obtain ⟨jq, hjq, rfl⟩ := z_nat (x := x) (by omega)
    have hjqt : (nI jq).toInt = (jq : Int) := nI_toInt hjq
    refine lv_if_eq (tgt := 13) hx hb dX10_samples_6 (by decide) (fun c6 => ?_) (fun c6 => ?_)
    · skip
      exact absurd c6 (by decide)
    · skip
      refine lv_iconst (v := nI 0) hx hb dX10_samples_9 (by decide) ?_
      refine lv_goto (tgt := 14) hx hb dX10_samples_10 (by decide) ?_
      refine g_callV (As := [.int (nI 0)]) (rest := []) (r := (RX10, TX10, 35)) ⟨hx, hb, hml, hown, hts⟩ hE hG (cX10_canC l D cy base ad n A J 0 (by first | assumption | omega)) (cwV 1 hts gX10_samples_X10_can rfl rfl rfl (by decide +kernel) ⟨Nat.le_of_ble_eq_true rfl, Nat.le_of_ble_eq_true rfl⟩) (by omega) rfl rfl rfl hl.1 rfl (Nat.le_of_ble_eq_true rfl) dX10_samples_14 ⟨Nat.zero_le _, Nat.zero_le _⟩ (fun v_ A14 J14 H locs hp hG => ?_)
      rcases hp with ⟨rfl, rfl, rfl, hC_14⟩ | ⟨rfl, rfl, rfl, hC_14⟩
      · refine W.eq (g2 := F0 mM 17 ls [.int (nI 1)]) rfl ?_
        refine lv_if_eq (tgt := 29) hx hb dX10_samples_17 (by decide) (fun c17 => ?_) (fun c17 => ?_)
        · skip
          exact absurd c17 (by decide)
        · skip
          refine lv_aload_n hx hb dX10_samples_20 rfl (lv_at hl 0 rfl) ?_
          refine g_get (C := RX10) (T := TX10) (NN := 35) (ci := 10) hx hb hts hinX10 hown hE hG (k := 28) (by omega) rfl rfl 26 (by decide) (hts (.fieldLink RX10 46 "CommutatorModel" "samples" "[I") (List.mem_of_getElem? (i := 1) rfl)) rfl (v := .ref (ad 41)) rfl dX10_samples_21 ?_
          refine lv_iload_n hx hb dX10_samples_24 rfl (lv_at hl 1 rfl) ?_
          refine g_iald hx hb hE hG (k := 41) (by omega) rfl jq (rfl) (by omega) (by omega) dX10_samples_25 ?_
          refine g_top (y := A 41 jq) (by first | rfl | (simp [gu_at]; done) | (rw [gu_at]; simp; omega)) ?_
          refine g_top (y := zI (G 41 jq)) (hM 41 jq (by omega) (by omega) (by omega)) ?_
          refine lv_goto (tgt := 30) hx hb dX10_samples_26 (by decide) ?_
          exact g_iret hx hb hr hlocks hG (by first | exact Or.inl ⟨_, rfl, rfl, rfl, (by first | omega | rfl | assumption), (by first | omega | rfl | assumption)⟩ | exact Or.inr (⟨rfl, rfl, rfl, (by first | omega | rfl | assumption)⟩)) dX10_samples_30
      · exact absurd hC_14 (by decide)
  · refine W.eq (g2 := F0 mM 6 ls [.int (nI 0), .ref (ad 28)]) rfl ?_
    refine lv_if_eq (tgt := 13) hx hb dX10_samples_6 (by decide) (fun c6 => ?_) (fun c6 => ?_)
    · skip
      refine lv_iconst (v := nI 1) hx hb dX10_samples_13 (by decide) ?_
      refine g_callV (As := [.int (nI 1)]) (rest := []) (r := (RX10, TX10, 35)) ⟨hx, hb, hml, hown, hts⟩ hE hG (cX10_canC l D cy base ad n A J 1 (by first | assumption | omega)) (cwV 1 hts gX10_samples_X10_can rfl rfl rfl (by decide +kernel) ⟨Nat.le_of_ble_eq_true rfl, Nat.le_of_ble_eq_true rfl⟩) (by omega) rfl rfl rfl hl.1 rfl (Nat.le_of_ble_eq_true rfl) dX10_samples_14 ⟨Nat.zero_le _, Nat.zero_le _⟩ (fun v_ A14 J14 H locs hp hG => ?_)
      rcases hp with ⟨rfl, rfl, rfl, hC_14⟩ | ⟨rfl, rfl, rfl, hC_14⟩
      · exact absurd hC_14 (by decide)
      · refine W.eq (g2 := F0 mM 17 ls [.int (nI 0)]) rfl ?_
        refine lv_if_eq (tgt := 29) hx hb dX10_samples_17 (by decide) (fun c17 => ?_) (fun c17 => ?_)
        · skip
          refine lv_iconst (v := nI 0) hx hb dX10_samples_29 (by decide) ?_
          exact g_iret hx hb hr hlocks hG (by first | exact Or.inl ⟨_, rfl, rfl, rfl, (by first | omega | rfl | assumption), (by first | omega | rfl | assumption)⟩ | exact Or.inr (⟨rfl, rfl, rfl, (by first | omega | rfl | assumption)⟩)) dX10_samples_30
        · skip
          exact absurd c17 (by decide)
    · skip
      exact absurd c6 (by decide)

abbrev PX10_missing (ad : Nat → Nat) (A : Nat → Nat → Int32) (J : Nat → Nat → Int64) (G : Nat → Nat → Int) (x : Int32) : Option Value → (Nat → Nat → Int32) → (Nat → Nat → Int64) → Prop := fun v_ A1 J1 => (∃ (jq : Nat), v_ = some (.int (zI (G 42 jq))) ∧ gu A 28 34 (nI 0) = A1 ∧ J = J1 ∧ (x = nI jq) ∧ ((jq : Int) < G 28 0)) ∨ (v_ = some (.int (nI 0)) ∧ gu A 28 34 (nI 1) = A1 ∧ J = J1 ∧ (¬ (0 ≤ x.toInt ∧ x.toInt < G 28 0)))
set_option maxHeartbeats 4000000 in
set_option maxRecDepth 100000 in
theorem cX10_missingC (l : Launch) (D : va_G) (cy : Nat → ClassId) (base : Nat) (ad : Nat → Nat) (n : Nat) (A : Nat → Nat → Int32) (J : Nat → Nat → Int64) (G : Nat → Nat → Int) (x : Int32) (hM : MRep A G) (hn : 0 ≤ G 28 0 ∧ G 28 0 ≤ 12) : gMet l yX10_missing wsX10_missing ({ frames := 2, cells := 0, slots := 0, locals := 43 } : Room) D cy base ad n A J [.ref (ad 28), .int x] (PX10_missing ad A J G x) := by
  refine g_ofW (cc := cX10_missing) (maxL := 2) (ret := (some .int)) (by decide) rfl (Nat.le_of_ble_eq_true rfl) ?_
  intro pM eM sM mM aM bM methM cM H locs ls hx hb hr hts hown hlocks hml hE hG hl
  have hl : lv_has ls 2 [(0, .ref (ad 28)), (1, .int x)] := hl
  have hinX10 : ∀ w ∈ u_ws RX10 TX10 35, w ∈ wsX10_missing := by decide +kernel
  refine lv_aload_n hx hb dX10_missing_0 rfl (lv_at hl 0 rfl) ?_
  refine lv_aload_n hx hb dX10_missing_1 rfl (lv_at hl 0 rfl) ?_
  refine lv_iload_n hx hb dX10_missing_2 rfl (lv_at hl 1 rfl) ?_
  refine g_callV (As := [.int x]) (rest := [.ref (ad 28)]) (r := (RX10, TX10, 35)) ⟨hx, hb, hml, hown, hts⟩ hE hG (cX10_isPointC l D cy base ad n A J G x (by first | exact hM | exact hM.st | exact hM.pa | exact hM.th _ | exact (hM.th _).st | exact (hM.th _).pa | exact (hM.th _).th _ | exact ((hM.th _).th _).st) (by first | assumption | omega)) (cwV 1 hts gX10_missing_X10_isPoint rfl rfl rfl (by decide +kernel) ⟨Nat.le_of_ble_eq_true rfl, Nat.le_of_ble_eq_true rfl⟩) (by omega) rfl rfl rfl hl.1 rfl (Nat.le_of_ble_eq_true rfl) dX10_missing_3 ⟨Nat.zero_le _, Nat.zero_le _⟩ (fun v_ A3 J3 H locs hp hG => ?_)
  rcases hp with ⟨rfl, rfl, rfl, hC_3⟩ | ⟨rfl, rfl, rfl, hC_3⟩
  · refine W.eq (g2 := F0 mM 6 ls [.int (nI 1), .ref (ad 28)]) rfl ?_
    obtain ⟨jq, hjq, rfl⟩ := z_nat (x := x) (by omega)
    have hjqt : (nI jq).toInt = (jq : Int) := nI_toInt hjq
    refine lv_if_eq (tgt := 13) hx hb dX10_missing_6 (by decide) (fun c6 => ?_) (fun c6 => ?_)
    · skip
      exact absurd c6 (by decide)
    · skip
      refine lv_iconst (v := nI 0) hx hb dX10_missing_9 (by decide) ?_
      refine lv_goto (tgt := 14) hx hb dX10_missing_10 (by decide) ?_
      refine g_callV (As := [.int (nI 0)]) (rest := []) (r := (RX10, TX10, 35)) ⟨hx, hb, hml, hown, hts⟩ hE hG (cX10_canC l D cy base ad n A J 0 (by first | assumption | omega)) (cwV 1 hts gX10_missing_X10_can rfl rfl rfl (by decide +kernel) ⟨Nat.le_of_ble_eq_true rfl, Nat.le_of_ble_eq_true rfl⟩) (by omega) rfl rfl rfl hl.1 rfl (Nat.le_of_ble_eq_true rfl) dX10_missing_14 ⟨Nat.zero_le _, Nat.zero_le _⟩ (fun v_ A14 J14 H locs hp hG => ?_)
      rcases hp with ⟨rfl, rfl, rfl, hC_14⟩ | ⟨rfl, rfl, rfl, hC_14⟩
      · refine W.eq (g2 := F0 mM 17 ls [.int (nI 1)]) rfl ?_
        refine lv_if_eq (tgt := 29) hx hb dX10_missing_17 (by decide) (fun c17 => ?_) (fun c17 => ?_)
        · skip
          exact absurd c17 (by decide)
        · skip
          refine lv_aload_n hx hb dX10_missing_20 rfl (lv_at hl 0 rfl) ?_
          refine g_get (C := RX10) (T := TX10) (NN := 35) (ci := 10) hx hb hts hinX10 hown hE hG (k := 28) (by omega) rfl rfl 27 (by decide) (hts (.fieldLink RX10 49 "CommutatorModel" "missing" "[I") (List.mem_of_getElem? (i := 1) rfl)) rfl (v := .ref (ad 42)) rfl dX10_missing_21 ?_
          refine lv_iload_n hx hb dX10_missing_24 rfl (lv_at hl 1 rfl) ?_
          refine g_iald hx hb hE hG (k := 42) (by omega) rfl jq (rfl) (by omega) (by omega) dX10_missing_25 ?_
          refine g_top (y := A 42 jq) (by first | rfl | (simp [gu_at]; done) | (rw [gu_at]; simp; omega)) ?_
          refine g_top (y := zI (G 42 jq)) (hM 42 jq (by omega) (by omega) (by omega)) ?_
          refine lv_goto (tgt := 30) hx hb dX10_missing_26 (by decide) ?_
          exact g_iret hx hb hr hlocks hG (by first | exact Or.inl ⟨_, rfl, rfl, rfl, (by first | omega | rfl | assumption), (by first | omega | rfl | assumption)⟩ | exact Or.inr (⟨rfl, rfl, rfl, (by first | omega | rfl | assumption)⟩)) dX10_missing_30
      · exact absurd hC_14 (by decide)
  · refine W.eq (g2 := F0 mM 6 ls [.int (nI 0), .ref (ad 28)]) rfl ?_
    refine lv_if_eq (tgt := 13) hx hb dX10_missing_6 (by decide) (fun c6 => ?_) (fun c6 => ?_)
    · skip
      refine lv_iconst (v := nI 1) hx hb dX10_missing_13 (by decide) ?_
      refine g_callV (As := [.int (nI 1)]) (rest := []) (r := (RX10, TX10, 35)) ⟨hx, hb, hml, hown, hts⟩ hE hG (cX10_canC l D cy base ad n A J 1 (by first | assumption | omega)) (cwV 1 hts gX10_missing_X10_can rfl rfl rfl (by decide +kernel) ⟨Nat.le_of_ble_eq_true rfl, Nat.le_of_ble_eq_true rfl⟩) (by omega) rfl rfl rfl hl.1 rfl (Nat.le_of_ble_eq_true rfl) dX10_missing_14 ⟨Nat.zero_le _, Nat.zero_le _⟩ (fun v_ A14 J14 H locs hp hG => ?_)
      rcases hp with ⟨rfl, rfl, rfl, hC_14⟩ | ⟨rfl, rfl, rfl, hC_14⟩
      · exact absurd hC_14 (by decide)
      · refine W.eq (g2 := F0 mM 17 ls [.int (nI 0)]) rfl ?_
        refine lv_if_eq (tgt := 29) hx hb dX10_missing_17 (by decide) (fun c17 => ?_) (fun c17 => ?_)
        · skip
          refine lv_iconst (v := nI 0) hx hb dX10_missing_29 (by decide) ?_
          exact g_iret hx hb hr hlocks hG (by first | exact Or.inl ⟨_, rfl, rfl, rfl, (by first | omega | rfl | assumption), (by first | omega | rfl | assumption)⟩ | exact Or.inr (⟨rfl, rfl, rfl, (by first | omega | rfl | assumption)⟩)) dX10_missing_30
        · skip
          exact absurd c17 (by decide)
    · skip
      exact absurd c6 (by decide)

abbrev PX10_hasSample (ad : Nat → Nat) (A : Nat → Nat → Int32) (J : Nat → Nat → Int64) (G : Nat → Nat → Int) (x : Int32) : Option Value → (Nat → Nat → Int32) → (Nat → Nat → Int64) → Prop := fun v_ A1 J1 => (∃ (jq : Nat), v_ = some (.int (nI 1)) ∧ gu A 28 34 (nI 0) = A1 ∧ J = J1 ∧ (x = nI jq) ∧ ((jq : Int) < G 28 0) ∧ (G 41 jq ≠ 0)) ∨ (v_ = some (.int (nI 0)) ∧ gu A 28 34 (nI 1) = A1 ∧ J = J1 ∧ (¬ (0 ≤ x.toInt ∧ x.toInt < G 28 0))) ∨ (∃ (jq : Nat), v_ = some (.int (nI 0)) ∧ gu A 28 34 (nI 2) = A1 ∧ J = J1 ∧ (x = nI jq) ∧ ((jq : Int) < G 28 0) ∧ (G 41 jq = 0))
set_option maxHeartbeats 4000000 in
set_option maxRecDepth 100000 in
theorem cX10_hasSampleC (l : Launch) (D : va_G) (cy : Nat → ClassId) (base : Nat) (ad : Nat → Nat) (n : Nat) (A : Nat → Nat → Int32) (J : Nat → Nat → Int64) (G : Nat → Nat → Int) (x : Int32) (hM : MRep A G) (hn : 0 ≤ G 28 0 ∧ G 28 0 ≤ 12) (hs : ∀ j, 0 ≤ G 41 j ∧ G 41 j < 1000000) : gMet l yX10_hasSample wsX10_hasSample ({ frames := 2, cells := 0, slots := 0, locals := 43 } : Room) D cy base ad n A J [.ref (ad 28), .int x] (PX10_hasSample ad A J G x) := by
  refine g_ofW (cc := cX10_hasSample) (maxL := 2) (ret := (some .boolean)) (by decide) rfl (Nat.le_of_ble_eq_true rfl) ?_
  intro pM eM sM mM aM bM methM cM H locs ls hx hb hr hts hown hlocks hml hE hG hl
  have hl : lv_has ls 2 [(0, .ref (ad 28)), (1, .int x)] := hl
  have hinX10 : ∀ w ∈ u_ws RX10 TX10 35, w ∈ wsX10_hasSample := by decide +kernel
  refine lv_aload_n hx hb dX10_hasSample_0 rfl (lv_at hl 0 rfl) ?_
  refine lv_aload_n hx hb dX10_hasSample_1 rfl (lv_at hl 0 rfl) ?_
  refine lv_iload_n hx hb dX10_hasSample_2 rfl (lv_at hl 1 rfl) ?_
  refine g_callV (As := [.int x]) (rest := [.ref (ad 28)]) (r := (RX10, TX10, 35)) ⟨hx, hb, hml, hown, hts⟩ hE hG (cX10_isPointC l D cy base ad n A J G x (by first | exact hM | exact hM.st | exact hM.pa | exact hM.th _ | exact (hM.th _).st | exact (hM.th _).pa | exact (hM.th _).th _ | exact ((hM.th _).th _).st) (by first | assumption | omega)) (cwV 1 hts gX10_hasSample_X10_isPoint rfl rfl rfl (by decide +kernel) ⟨Nat.le_of_ble_eq_true rfl, Nat.le_of_ble_eq_true rfl⟩) (by omega) rfl rfl rfl hl.1 rfl (Nat.le_of_ble_eq_true rfl) dX10_hasSample_3 ⟨Nat.zero_le _, Nat.zero_le _⟩ (fun v_ A3 J3 H locs hp hG => ?_)
  rcases hp with ⟨rfl, rfl, rfl, hC_3⟩ | ⟨rfl, rfl, rfl, hC_3⟩
  · refine W.eq (g2 := F0 mM 6 ls [.int (nI 1), .ref (ad 28)]) rfl ?_
    obtain ⟨jq, hjq, rfl⟩ := z_nat (x := x) (by omega)
    have hjqt : (nI jq).toInt = (jq : Int) := nI_toInt hjq
    have hsj := hs jq
    refine lv_if_ne (tgt := 13) hx hb dX10_hasSample_6 (by decide) (fun c6 => ?_) (fun c6 => ?_)
    · skip
      refine lv_aload_n hx hb dX10_hasSample_13 rfl (lv_at hl 0 rfl) ?_
      refine g_get (C := RX10) (T := TX10) (NN := 35) (ci := 10) hx hb hts hinX10 hown hE hG (k := 28) (by omega) rfl rfl 26 (by decide) (hts (.fieldLink RX10 46 "CommutatorModel" "samples" "[I") (List.mem_of_getElem? (i := 1) rfl)) rfl (v := .ref (ad 41)) rfl dX10_hasSample_14 ?_
      refine lv_iload_n hx hb dX10_hasSample_17 rfl (lv_at hl 1 rfl) ?_
      refine g_iald hx hb hE hG (k := 41) (by omega) rfl jq (rfl) (by omega) (by omega) dX10_hasSample_18 ?_
      refine g_top (y := zI (G 41 jq)) (hM 41 jq (by omega) (by omega) (by omega)) ?_
      refine lv_if_ne (tgt := 26) hx hb dX10_hasSample_19 (by decide) (fun c19 => ?_) (fun c19 => ?_)
      · skip
        have c19 : ¬ ((zI (G 41 jq)) = nI 0) := c19
        have c19 : ¬ ((G 41 jq) = ((0 : Nat) : Int)) := fun z9 => c19 ((cmp_eq (zI_toInt (by omega) (by omega)) (nI_toInt (by omega))).mpr z9)
        refine lv_iconst (v := nI 0) hx hb dX10_hasSample_26 (by decide) ?_
        refine g_callV (As := [.int (nI 0)]) (rest := []) (r := (RX10, TX10, 35)) ⟨hx, hb, hml, hown, hts⟩ hE hG (cX10_canC l D cy base ad n A J 0 (by first | assumption | omega)) (cwV 1 hts gX10_hasSample_X10_can rfl rfl rfl (by decide +kernel) ⟨Nat.le_of_ble_eq_true rfl, Nat.le_of_ble_eq_true rfl⟩) (by omega) rfl rfl rfl hl.1 rfl (Nat.le_of_ble_eq_true rfl) dX10_hasSample_27 ⟨Nat.zero_le _, Nat.zero_le _⟩ (fun v_ A27 J27 H locs hp hG => ?_)
        rcases hp with ⟨rfl, rfl, rfl, hC_27⟩ | ⟨rfl, rfl, rfl, hC_27⟩
        · refine W.eq (g2 := F0 mM 30 ls [.int (nI 1)]) rfl ?_
          exact g_zret hx hb hr hlocks hG rfl (by first | exact Or.inl ⟨_, rfl, rfl, rfl, (by first | omega | rfl | assumption), (by first | omega | rfl | assumption), (by first | omega | rfl | assumption)⟩ | exact Or.inr (Or.inl ⟨rfl, rfl, rfl, (by first | omega | rfl | assumption)⟩) | exact Or.inr (Or.inr (⟨_, rfl, rfl, rfl, (by first | omega | rfl | assumption), (by first | omega | rfl | assumption), (by first | omega | rfl | assumption)⟩))) dX10_hasSample_30
        · exact absurd hC_27 (by decide)
      · skip
        have c19 : (zI (G 41 jq)) = nI 0 := c19
        have c19 : (G 41 jq) = ((0 : Nat) : Int) := (cmp_eq (zI_toInt (by omega) (by omega)) (nI_toInt (by omega))).mp c19
        refine lv_iconst (v := nI 2) hx hb dX10_hasSample_22 (by decide) ?_
        refine lv_goto (tgt := 27) hx hb dX10_hasSample_23 (by decide) ?_
        refine g_callV (As := [.int (nI 2)]) (rest := []) (r := (RX10, TX10, 35)) ⟨hx, hb, hml, hown, hts⟩ hE hG (cX10_canC l D cy base ad n A J 2 (by first | assumption | omega)) (cwV 1 hts gX10_hasSample_X10_can rfl rfl rfl (by decide +kernel) ⟨Nat.le_of_ble_eq_true rfl, Nat.le_of_ble_eq_true rfl⟩) (by omega) rfl rfl rfl hl.1 rfl (Nat.le_of_ble_eq_true rfl) dX10_hasSample_27 ⟨Nat.zero_le _, Nat.zero_le _⟩ (fun v_ A27 J27 H locs hp hG => ?_)
        rcases hp with ⟨rfl, rfl, rfl, hC_27⟩ | ⟨rfl, rfl, rfl, hC_27⟩
        · exact absurd hC_27 (by decide)
        · refine W.eq (g2 := F0 mM 30 ls [.int (nI 0)]) rfl ?_
          exact g_zret hx hb hr hlocks hG rfl (by first | exact Or.inl ⟨_, rfl, rfl, rfl, (by first | omega | rfl | assumption), (by first | omega | rfl | assumption), (by first | omega | rfl | assumption)⟩ | exact Or.inr (Or.inl ⟨rfl, rfl, rfl, (by first | omega | rfl | assumption)⟩) | exact Or.inr (Or.inr (⟨_, rfl, rfl, rfl, (by first | omega | rfl | assumption), (by first | omega | rfl | assumption), (by first | omega | rfl | assumption)⟩))) dX10_hasSample_30
    · skip
      exact absurd c6 (by decide)
  · refine W.eq (g2 := F0 mM 6 ls [.int (nI 0), .ref (ad 28)]) rfl ?_
    refine lv_if_ne (tgt := 13) hx hb dX10_hasSample_6 (by decide) (fun c6 => ?_) (fun c6 => ?_)
    · skip
      exact absurd c6 (by decide)
    · skip
      refine lv_iconst (v := nI 1) hx hb dX10_hasSample_9 (by decide) ?_
      refine lv_goto (tgt := 27) hx hb dX10_hasSample_10 (by decide) ?_
      refine g_callV (As := [.int (nI 1)]) (rest := []) (r := (RX10, TX10, 35)) ⟨hx, hb, hml, hown, hts⟩ hE hG (cX10_canC l D cy base ad n A J 1 (by first | assumption | omega)) (cwV 1 hts gX10_hasSample_X10_can rfl rfl rfl (by decide +kernel) ⟨Nat.le_of_ble_eq_true rfl, Nat.le_of_ble_eq_true rfl⟩) (by omega) rfl rfl rfl hl.1 rfl (Nat.le_of_ble_eq_true rfl) dX10_hasSample_27 ⟨Nat.zero_le _, Nat.zero_le _⟩ (fun v_ A27 J27 H locs hp hG => ?_)
      rcases hp with ⟨rfl, rfl, rfl, hC_27⟩ | ⟨rfl, rfl, rfl, hC_27⟩
      · exact absurd hC_27 (by decide)
      · refine W.eq (g2 := F0 mM 30 ls [.int (nI 0)]) rfl ?_
        exact g_zret hx hb hr hlocks hG rfl (by first | exact Or.inl ⟨_, rfl, rfl, rfl, (by first | omega | rfl | assumption), (by first | omega | rfl | assumption), (by first | omega | rfl | assumption)⟩ | exact Or.inr (Or.inl ⟨rfl, rfl, rfl, (by first | omega | rfl | assumption)⟩) | exact Or.inr (Or.inr (⟨_, rfl, rfl, rfl, (by first | omega | rfl | assumption), (by first | omega | rfl | assumption), (by first | omega | rfl | assumption)⟩))) dX10_hasSample_30

abbrev PX10_value (ad : Nat → Nat) (A : Nat → Nat → Int32) (J : Nat → Nat → Int64) (G : Nat → Nat → Int) (x : Int32) : Option Value → (Nat → Nat → Int32) → (Nat → Nat → Int64) → Prop := fun v_ A1 J1 => (∃ (jq : Nat), v_ = some (.int (zI (G 39 jq))) ∧ gu A 28 34 (nI 0) = A1 ∧ J = J1 ∧ (x = nI jq) ∧ ((jq : Int) < G 28 0) ∧ (G 41 jq ≠ 0)) ∨ (v_ = some (.int (nI 0)) ∧ gu A 28 34 (nI 1) = A1 ∧ J = J1 ∧ (¬ (0 ≤ x.toInt ∧ x.toInt < G 28 0))) ∨ (∃ (jq : Nat), v_ = some (.int (nI 0)) ∧ gu A 28 34 (nI 2) = A1 ∧ J = J1 ∧ (x = nI jq) ∧ ((jq : Int) < G 28 0) ∧ (G 41 jq = 0))
set_option maxHeartbeats 4000000 in
set_option maxRecDepth 100000 in
theorem cX10_valueC (l : Launch) (D : va_G) (cy : Nat → ClassId) (base : Nat) (ad : Nat → Nat) (n : Nat) (A : Nat → Nat → Int32) (J : Nat → Nat → Int64) (G : Nat → Nat → Int) (x : Int32) (hM : MRep A G) (hn : 0 ≤ G 28 0 ∧ G 28 0 ≤ 12) (hs : ∀ j, 0 ≤ G 41 j ∧ G 41 j < 1000000) : gMet l yX10_value wsX10_value ({ frames := 3, cells := 0, slots := 0, locals := 64 } : Room) D cy base ad n A J [.ref (ad 28), .int x] (PX10_value ad A J G x) := by
  refine g_ofW (cc := cX10_value) (maxL := 2) (ret := (some .int)) (by decide) rfl (Nat.le_of_ble_eq_true rfl) ?_
  intro pM eM sM mM aM bM methM cM H locs ls hx hb hr hts hown hlocks hml hE hG hl
  have hl : lv_has ls 2 [(0, .ref (ad 28)), (1, .int x)] := hl
  have hinX10 : ∀ w ∈ u_ws RX10 TX10 35, w ∈ wsX10_value := by decide +kernel
  refine lv_aload_n hx hb dX10_value_0 rfl (lv_at hl 0 rfl) ?_
  refine lv_iload_n hx hb dX10_value_1 rfl (lv_at hl 1 rfl) ?_
  refine g_callV (As := [.int x]) (rest := []) (r := (RX10, TX10, 35)) ⟨hx, hb, hml, hown, hts⟩ hE hG (cX10_hasSampleC l D cy base ad n A J G x (by first | exact hM | exact hM.st | exact hM.pa | exact hM.th _ | exact (hM.th _).st | exact (hM.th _).pa | exact (hM.th _).th _ | exact ((hM.th _).th _).st) (by first | assumption | omega) (by first | assumption | omega)) (cwV 1 hts gX10_value_X10_hasSample rfl rfl rfl (by decide +kernel) ⟨Nat.le_of_ble_eq_true rfl, Nat.le_of_ble_eq_true rfl⟩) (by omega) rfl rfl rfl hl.1 rfl (Nat.le_of_ble_eq_true rfl) dX10_value_2 ⟨Nat.zero_le _, Nat.zero_le _⟩ (fun v_ A2 J2 H locs hp hG => ?_)
  rcases hp with ⟨jq_2, rfl, rfl, rfl, hx_2, hC_2, hS_2⟩ | ⟨rfl, rfl, rfl, hC_2⟩ | ⟨jq_2, rfl, rfl, rfl, hx_2, hC_2, hS_2⟩
  · refine W.eq (g2 := F0 mM 5 ls [.int (nI 1)]) rfl ?_
    subst hx_2
    refine lv_if_eq (tgt := 17) hx hb dX10_value_5 (by decide) (fun c5 => ?_) (fun c5 => ?_)
    · skip
      exact absurd c5 (by decide)
    · skip
      refine lv_aload_n hx hb dX10_value_8 rfl (lv_at hl 0 rfl) ?_
      refine g_get (C := RX10) (T := TX10) (NN := 35) (ci := 10) hx hb hts hinX10 hown hE hG (k := 28) (by omega) rfl rfl 24 (by decide) (hts (.fieldLink RX10 40 "CommutatorModel" "value" "[I") (List.mem_of_getElem? (i := 1) rfl)) rfl (v := .ref (ad 39)) rfl dX10_value_9 ?_
      refine lv_iload_n hx hb dX10_value_12 rfl (lv_at hl 1 rfl) ?_
      refine g_iald hx hb hE hG (k := 39) (by omega) rfl jq_2 (rfl) (by omega) (by omega) dX10_value_13 ?_
      refine g_top (y := A 39 jq_2) (by first | rfl | (simp [gu_at]; done) | (rw [gu_at]; simp; omega)) ?_
      refine g_top (y := zI (G 39 jq_2)) (hM 39 jq_2 (by omega) (by omega) (by omega)) ?_
      refine lv_goto (tgt := 18) hx hb dX10_value_14 (by decide) ?_
      exact g_iret hx hb hr hlocks hG (by first | exact Or.inl ⟨_, rfl, rfl, rfl, (by first | omega | rfl | assumption), (by first | omega | rfl | assumption), (by first | omega | rfl | assumption)⟩ | exact Or.inr (Or.inl ⟨rfl, rfl, rfl, (by first | omega | rfl | assumption)⟩) | exact Or.inr (Or.inr (⟨_, rfl, rfl, rfl, (by first | omega | rfl | assumption), (by first | omega | rfl | assumption), (by first | omega | rfl | assumption)⟩))) dX10_value_18
  · refine W.eq (g2 := F0 mM 5 ls [.int (nI 0)]) rfl ?_
    refine lv_if_eq (tgt := 17) hx hb dX10_value_5 (by decide) (fun c5 => ?_) (fun c5 => ?_)
    · skip
      refine lv_iconst (v := nI 0) hx hb dX10_value_17 (by decide) ?_
      exact g_iret hx hb hr hlocks hG (by first | exact Or.inl ⟨_, rfl, rfl, rfl, (by first | omega | rfl | assumption), (by first | omega | rfl | assumption), (by first | omega | rfl | assumption)⟩ | exact Or.inr (Or.inl ⟨rfl, rfl, rfl, (by first | omega | rfl | assumption)⟩) | exact Or.inr (Or.inr (⟨_, rfl, rfl, rfl, (by first | omega | rfl | assumption), (by first | omega | rfl | assumption), (by first | omega | rfl | assumption)⟩))) dX10_value_18
    · skip
      exact absurd c5 (by decide)
  · refine W.eq (g2 := F0 mM 5 ls [.int (nI 0)]) rfl ?_
    refine lv_if_eq (tgt := 17) hx hb dX10_value_5 (by decide) (fun c5 => ?_) (fun c5 => ?_)
    · skip
      refine lv_iconst (v := nI 0) hx hb dX10_value_17 (by decide) ?_
      exact g_iret hx hb hr hlocks hG (by first | exact Or.inl ⟨_, rfl, rfl, rfl, (by first | omega | rfl | assumption), (by first | omega | rfl | assumption), (by first | omega | rfl | assumption)⟩ | exact Or.inr (Or.inl ⟨rfl, rfl, rfl, (by first | omega | rfl | assumption)⟩) | exact Or.inr (Or.inr (⟨_, rfl, rfl, rfl, (by first | omega | rfl | assumption), (by first | omega | rfl | assumption), (by first | omega | rfl | assumption)⟩))) dX10_value_18
    · skip
      exact absurd c5 (by decide)

abbrev PX10_time (ad : Nat → Nat) (A : Nat → Nat → Int32) (J : Nat → Nat → Int64) (G : Nat → Nat → Int) (x : Int32) : Option Value → (Nat → Nat → Int32) → (Nat → Nat → Int64) → Prop := fun v_ A1 J1 => (∃ (jq : Nat), v_ = some (.int (zI (G 40 jq))) ∧ gu A 28 34 (nI 0) = A1 ∧ J = J1 ∧ (x = nI jq) ∧ ((jq : Int) < G 28 0) ∧ (G 41 jq ≠ 0)) ∨ (v_ = some (.int (nI 0)) ∧ gu A 28 34 (nI 1) = A1 ∧ J = J1 ∧ (¬ (0 ≤ x.toInt ∧ x.toInt < G 28 0))) ∨ (∃ (jq : Nat), v_ = some (.int (nI 0)) ∧ gu A 28 34 (nI 2) = A1 ∧ J = J1 ∧ (x = nI jq) ∧ ((jq : Int) < G 28 0) ∧ (G 41 jq = 0))
set_option maxHeartbeats 4000000 in
set_option maxRecDepth 100000 in
theorem cX10_timeC (l : Launch) (D : va_G) (cy : Nat → ClassId) (base : Nat) (ad : Nat → Nat) (n : Nat) (A : Nat → Nat → Int32) (J : Nat → Nat → Int64) (G : Nat → Nat → Int) (x : Int32) (hM : MRep A G) (hn : 0 ≤ G 28 0 ∧ G 28 0 ≤ 12) (hs : ∀ j, 0 ≤ G 41 j ∧ G 41 j < 1000000) : gMet l yX10_time wsX10_time ({ frames := 3, cells := 0, slots := 0, locals := 64 } : Room) D cy base ad n A J [.ref (ad 28), .int x] (PX10_time ad A J G x) := by
  refine g_ofW (cc := cX10_time) (maxL := 2) (ret := (some .int)) (by decide) rfl (Nat.le_of_ble_eq_true rfl) ?_
  intro pM eM sM mM aM bM methM cM H locs ls hx hb hr hts hown hlocks hml hE hG hl
  have hl : lv_has ls 2 [(0, .ref (ad 28)), (1, .int x)] := hl
  have hinX10 : ∀ w ∈ u_ws RX10 TX10 35, w ∈ wsX10_time := by decide +kernel
  refine lv_aload_n hx hb dX10_time_0 rfl (lv_at hl 0 rfl) ?_
  refine lv_iload_n hx hb dX10_time_1 rfl (lv_at hl 1 rfl) ?_
  refine g_callV (As := [.int x]) (rest := []) (r := (RX10, TX10, 35)) ⟨hx, hb, hml, hown, hts⟩ hE hG (cX10_hasSampleC l D cy base ad n A J G x (by first | exact hM | exact hM.st | exact hM.pa | exact hM.th _ | exact (hM.th _).st | exact (hM.th _).pa | exact (hM.th _).th _ | exact ((hM.th _).th _).st) (by first | assumption | omega) (by first | assumption | omega)) (cwV 1 hts gX10_time_X10_hasSample rfl rfl rfl (by decide +kernel) ⟨Nat.le_of_ble_eq_true rfl, Nat.le_of_ble_eq_true rfl⟩) (by omega) rfl rfl rfl hl.1 rfl (Nat.le_of_ble_eq_true rfl) dX10_time_2 ⟨Nat.zero_le _, Nat.zero_le _⟩ (fun v_ A2 J2 H locs hp hG => ?_)
  rcases hp with ⟨jq_2, rfl, rfl, rfl, hx_2, hC_2, hS_2⟩ | ⟨rfl, rfl, rfl, hC_2⟩ | ⟨jq_2, rfl, rfl, rfl, hx_2, hC_2, hS_2⟩
  · refine W.eq (g2 := F0 mM 5 ls [.int (nI 1)]) rfl ?_
    subst hx_2
    refine lv_if_eq (tgt := 17) hx hb dX10_time_5 (by decide) (fun c5 => ?_) (fun c5 => ?_)
    · skip
      exact absurd c5 (by decide)
    · skip
      refine lv_aload_n hx hb dX10_time_8 rfl (lv_at hl 0 rfl) ?_
      refine g_get (C := RX10) (T := TX10) (NN := 35) (ci := 10) hx hb hts hinX10 hown hE hG (k := 28) (by omega) rfl rfl 25 (by decide) (hts (.fieldLink RX10 43 "CommutatorModel" "time" "[I") (List.mem_of_getElem? (i := 1) rfl)) rfl (v := .ref (ad 40)) rfl dX10_time_9 ?_
      refine lv_iload_n hx hb dX10_time_12 rfl (lv_at hl 1 rfl) ?_
      refine g_iald hx hb hE hG (k := 40) (by omega) rfl jq_2 (rfl) (by omega) (by omega) dX10_time_13 ?_
      refine g_top (y := A 40 jq_2) (by first | rfl | (simp [gu_at]; done) | (rw [gu_at]; simp; omega)) ?_
      refine g_top (y := zI (G 40 jq_2)) (hM 40 jq_2 (by omega) (by omega) (by omega)) ?_
      refine lv_goto (tgt := 18) hx hb dX10_time_14 (by decide) ?_
      exact g_iret hx hb hr hlocks hG (by first | exact Or.inl ⟨_, rfl, rfl, rfl, (by first | omega | rfl | assumption), (by first | omega | rfl | assumption), (by first | omega | rfl | assumption)⟩ | exact Or.inr (Or.inl ⟨rfl, rfl, rfl, (by first | omega | rfl | assumption)⟩) | exact Or.inr (Or.inr (⟨_, rfl, rfl, rfl, (by first | omega | rfl | assumption), (by first | omega | rfl | assumption), (by first | omega | rfl | assumption)⟩))) dX10_time_18
  · refine W.eq (g2 := F0 mM 5 ls [.int (nI 0)]) rfl ?_
    refine lv_if_eq (tgt := 17) hx hb dX10_time_5 (by decide) (fun c5 => ?_) (fun c5 => ?_)
    · skip
      refine lv_iconst (v := nI 0) hx hb dX10_time_17 (by decide) ?_
      exact g_iret hx hb hr hlocks hG (by first | exact Or.inl ⟨_, rfl, rfl, rfl, (by first | omega | rfl | assumption), (by first | omega | rfl | assumption), (by first | omega | rfl | assumption)⟩ | exact Or.inr (Or.inl ⟨rfl, rfl, rfl, (by first | omega | rfl | assumption)⟩) | exact Or.inr (Or.inr (⟨_, rfl, rfl, rfl, (by first | omega | rfl | assumption), (by first | omega | rfl | assumption), (by first | omega | rfl | assumption)⟩))) dX10_time_18
    · skip
      exact absurd c5 (by decide)
  · refine W.eq (g2 := F0 mM 5 ls [.int (nI 0)]) rfl ?_
    refine lv_if_eq (tgt := 17) hx hb dX10_time_5 (by decide) (fun c5 => ?_) (fun c5 => ?_)
    · skip
      refine lv_iconst (v := nI 0) hx hb dX10_time_17 (by decide) ?_
      exact g_iret hx hb hr hlocks hG (by first | exact Or.inl ⟨_, rfl, rfl, rfl, (by first | omega | rfl | assumption), (by first | omega | rfl | assumption), (by first | omega | rfl | assumption)⟩ | exact Or.inr (Or.inl ⟨rfl, rfl, rfl, (by first | omega | rfl | assumption)⟩) | exact Or.inr (Or.inr (⟨_, rfl, rfl, rfl, (by first | omega | rfl | assumption), (by first | omega | rfl | assumption), (by first | omega | rfl | assumption)⟩))) dX10_time_18
    · skip
      exact absurd c5 (by decide)
