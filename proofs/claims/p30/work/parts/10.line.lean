abbrev PX3_length (ad : Nat → Nat) (A : Nat → Nat → Int32) (J : Nat → Nat → Int64) (h e : Nat) : Option Value → (Nat → Nat → Int32) → (Nat → Nat → Int64) → Prop := fun v_ A1 J1 => (v_ = some (.int (nI (e - h))) ∧ A = A1 ∧ J = J1)
set_option maxHeartbeats 4000000 in
set_option maxRecDepth 100000 in
theorem cX3_lengthC (l : Launch) (D : va_G) (cy : Nat → ClassId) (base : Nat) (ad : Nat → Nat) (n : Nat) (A : Nat → Nat → Int32) (J : Nat → Nat → Int64) (h e : Nat) (hh : A 4 1 = nI h) (he : A 4 2 = nI e) (hle : h ≤ e) (he8 : e ≤ 8000) : gMet l yX3_length wsX3_length ({ frames := 0, cells := 0, slots := 0, locals := 0 } : Room) D cy base ad n A J [.ref (ad 4)] (PX3_length ad A J h e) := by
  refine g_ofW (cc := cX3_length) (maxL := 1) (ret := (some .int)) (by decide) rfl (Nat.le_of_ble_eq_true rfl) ?_
  intro p9 e9 s9 m9 a9 b9 meth9 c9 H locs ls hx hb hr hts hown hlocks hml hE hG hl
  have hl : lv_has ls 1 [(0, .ref (ad 4))] := hl
  have hinX3 : ∀ w ∈ u_ws RX3 TX3 3, w ∈ wsX3_length := by decide +kernel
  refine lv_aload_n hx hb dX3_length_0 rfl (lv_at hl 0 rfl) ?_
  refine g_get (C := RX3) (T := TX3) (NN := 3) (ci := 3) hx hb hts hinX3 hown hE hG (k := 4) (by omega) rfl rfl 2 (by decide) (hts (.fieldLink RX3 15 "Commutator$Line" "end" "I") (List.mem_of_getElem? (i := 1) rfl)) rfl (v := .int (A 4 2)) rfl dX3_length_1 ?_
  refine g_top (y := nI e) (he) ?_
  refine lv_aload_n hx hb dX3_length_4 rfl (lv_at hl 0 rfl) ?_
  refine g_get (C := RX3) (T := TX3) (NN := 3) (ci := 3) hx hb hts hinX3 hown hE hG (k := 4) (by omega) rfl rfl 1 (by decide) (hts (.fieldLink RX3 19 "Commutator$Line" "head" "I") (List.mem_of_getElem? (i := 2) rfl)) rfl (v := .int (A 4 1)) rfl dX3_length_5 ?_
  refine g_top (y := nI h) (hh) ?_
  refine lv_isub hx hb dX3_length_8 ?_
  refine g_top (y := nI (e - h)) (pk_sub (by omega)) ?_
  exact g_iret hx hb hr hlocks hG ⟨rfl, rfl, rfl⟩ dX3_length_9

abbrev PX3_holds (ad : Nat → Nat) (A : Nat → Nat → Int32) (J : Nat → Nat → Int64) (h e : Nat) (x k : Int32) : Option Value → (Nat → Nat → Int32) → (Nat → Nat → Int64) → Prop := fun v_ A1 J1 => (v_ = some (.int (nI 1)) ∧ A = A1 ∧ J = J1 ∧ (0 ≤ x.toInt ∧ x.toInt < ((e - h : Nat) : Int) ∧ k.toInt ≤ ((e - h : Nat) : Int) - x.toInt)) ∨ (v_ = some (.int (nI 0)) ∧ A = A1 ∧ J = J1 ∧ (¬ (0 ≤ x.toInt ∧ x.toInt < ((e - h : Nat) : Int) ∧ k.toInt ≤ ((e - h : Nat) : Int) - x.toInt)))
set_option maxHeartbeats 4000000 in
set_option maxRecDepth 100000 in
theorem cX3_holdsC (l : Launch) (D : va_G) (cy : Nat → ClassId) (base : Nat) (ad : Nat → Nat) (n : Nat) (A : Nat → Nat → Int32) (J : Nat → Nat → Int64) (h e : Nat) (x k : Int32) (hh : A 4 1 = nI h) (he : A 4 2 = nI e) (hle : h ≤ e) (he8 : e ≤ 8000) : gMet l yX3_holds wsX3_holds ({ frames := 1, cells := 0, slots := 0, locals := 20 } : Room) D cy base ad n A J [.ref (ad 4), .int x, .int k] (PX3_holds ad A J h e x k) := by
  refine g_ofW (cc := cX3_holds) (maxL := 3) (ret := (some .boolean)) (by decide) rfl (Nat.le_of_ble_eq_true rfl) ?_
  intro p9 e9 s9 m9 a9 b9 meth9 c9 H locs ls hx hb hr hts hown hlocks hml hE hG hl
  have hl : lv_has ls 3 [(0, .ref (ad 4)), (1, .int x), (2, .int k)] := hl
  have hinX3 : ∀ w ∈ u_ws RX3 TX3 3, w ∈ wsX3_holds := by decide +kernel
  refine lv_iload_n hx hb dX3_holds_0 rfl (lv_at hl 1 rfl) ?_
  refine lv_if_lt (tgt := 26) hx hb dX3_holds_1 (by decide) (fun c1 => ?_) (fun c1 => ?_)
  · skip
    have c1 : x < nI 0 := c1
    have c1 : x.toInt < ((0 : Nat) : Int) := (cmp_lt rfl (nI_toInt (by omega))).mp c1
    refine lv_iconst (v := nI 0) hx hb dX3_holds_26 (by decide) ?_
    exact g_zret hx hb hr hlocks hG rfl (Or.inr ⟨rfl, rfl, rfl, by omega⟩) dX3_holds_27
  · skip
    have c1 : ¬ (x < nI 0) := c1
    have c1 : ¬ (x.toInt < ((0 : Nat) : Int)) := fun z9 => c1 ((cmp_lt rfl (nI_toInt (by omega))).mpr z9)
    obtain ⟨j, hj, rfl⟩ := z_nat (x := x) (by omega)
    have hjt : (nI j).toInt = (j : Int) := nI_toInt hj
    refine lv_iload_n hx hb dX3_holds_4 rfl (lv_at hl 1 rfl) ?_
    refine lv_aload_n hx hb dX3_holds_5 rfl (lv_at hl 0 rfl) ?_
    refine g_callV (As := []) (rest := [.int (nI j)]) (r := (RX3, TX3, 3)) ⟨hx, hb, hml, hown, hts⟩ hE hG (cX3_lengthC l D cy base ad n A J _ _ (by first | assumption | omega) (by first | assumption | omega) (by first | assumption | omega) (by first | assumption | omega)) (cwV 0 hts gX3_holds_X3_length rfl rfl rfl (by decide +kernel) ⟨Nat.le_of_ble_eq_true rfl, Nat.le_of_ble_eq_true rfl⟩) (by omega) rfl rfl rfl hl.1 rfl (Nat.le_of_ble_eq_true rfl) dX3_holds_6 ⟨Nat.zero_le _, Nat.zero_le _⟩ (fun v_ A6 J6 H locs hp hG => ?_)
    obtain ⟨rfl, rfl, rfl⟩ := hp
    refine W.eq (g2 := F0 m9 9 ls [.int (nI (_ - _)), .int (nI j)]) rfl ?_
    refine lv_icmp_ge (tgt := 26) hx hb dX3_holds_9 (by decide) (fun c9 => ?_) (fun c9 => ?_)
    · skip
      have c9 : (_ - _) ≤ j := (nI_leI (by omega) (by omega)).mp c9
      refine lv_iconst (v := nI 0) hx hb dX3_holds_26 (by decide) ?_
      exact g_zret hx hb hr hlocks hG rfl (Or.inr ⟨rfl, rfl, rfl, by omega⟩) dX3_holds_27
    · skip
      have c9 : ¬ ((_ - _) ≤ j) := fun z9 => c9 ((nI_leI (by omega) (by omega)).mpr z9)
      refine lv_iload_n hx hb dX3_holds_12 rfl (lv_at hl 2 rfl) ?_
      refine lv_aload_n hx hb dX3_holds_13 rfl (lv_at hl 0 rfl) ?_
      refine g_callV (As := []) (rest := [.int k]) (r := (RX3, TX3, 3)) ⟨hx, hb, hml, hown, hts⟩ hE hG (cX3_lengthC l D cy base ad n A J _ _ (by first | assumption | omega) (by first | assumption | omega) (by first | assumption | omega) (by first | assumption | omega)) (cwV 0 hts gX3_holds_X3_length rfl rfl rfl (by decide +kernel) ⟨Nat.le_of_ble_eq_true rfl, Nat.le_of_ble_eq_true rfl⟩) (by omega) rfl rfl rfl hl.1 rfl (Nat.le_of_ble_eq_true rfl) dX3_holds_14 ⟨Nat.zero_le _, Nat.zero_le _⟩ (fun v_ A14 J14 H locs hp hG => ?_)
      obtain ⟨rfl, rfl, rfl⟩ := hp
      refine W.eq (g2 := F0 m9 17 ls [.int (nI (_ - _)), .int k]) rfl ?_
      refine lv_iload_n hx hb dX3_holds_17 rfl (lv_at hl 1 rfl) ?_
      refine lv_isub hx hb dX3_holds_18 ?_
      refine g_top (y := nI ((_ - _) - j)) (pk_sub (by omega)) ?_
      refine lv_icmp_gt (tgt := 26) hx hb dX3_holds_19 (by decide) (fun c19 => ?_) (fun c19 => ?_)
      · skip
        have c19 : (((_ - _) - j : Nat) : Int) < k.toInt := (cmp_lt (nI_toInt (by omega)) rfl).mp c19
        refine lv_iconst (v := nI 0) hx hb dX3_holds_26 (by decide) ?_
        exact g_zret hx hb hr hlocks hG rfl (Or.inr ⟨rfl, rfl, rfl, by omega⟩) dX3_holds_27
      · skip
        have c19 : ¬ ((((_ - _) - j : Nat) : Int) < k.toInt) := fun z9 => c19 ((cmp_lt (nI_toInt (by omega)) rfl).mpr z9)
        refine lv_iconst (v := nI 1) hx hb dX3_holds_22 (by decide) ?_
        refine lv_goto (tgt := 27) hx hb dX3_holds_23 (by decide) ?_
        exact g_zret hx hb hr hlocks hG rfl (Or.inl ⟨rfl, rfl, rfl, by omega⟩) dX3_holds_27

abbrev PX3_append (ad : Nat → Nat) (A : Nat → Nat → Int32) (J : Nat → Nat → Int64) (h e : Nat) (v : Int32) : Option Value → (Nat → Nat → Int32) → (Nat → Nat → Int64) → Prop := fun v_ A1 J1 => (v_ = none ∧ gu (gu A 5 e v) 4 2 (nI (e + 1)) = A1 ∧ J = J1)
set_option maxHeartbeats 4000000 in
set_option maxRecDepth 100000 in
theorem cX3_appendC (l : Launch) (D : va_G) (cy : Nat → ClassId) (base : Nat) (ad : Nat → Nat) (n : Nat) (A : Nat → Nat → Int32) (J : Nat → Nat → Int64) (h e : Nat) (v : Int32) (hh : A 4 1 = nI h) (he : A 4 2 = nI e) (hle : h ≤ e) (he8 : e ≤ 8000) (hlt : e < 8000) : gMet l yX3_append wsX3_append ({ frames := 0, cells := 0, slots := 0, locals := 0 } : Room) D cy base ad n A J [.ref (ad 4), .int v] (PX3_append ad A J h e v) := by
  refine g_ofW (cc := cX3_append) (maxL := 2) (ret := none) (by decide) rfl (Nat.le_of_ble_eq_true rfl) ?_
  intro p9 e9 s9 m9 a9 b9 meth9 c9 H locs ls hx hb hr hts hown hlocks hml hE hG hl
  have hl : lv_has ls 2 [(0, .ref (ad 4)), (1, .int v)] := hl
  have hinX3 : ∀ w ∈ u_ws RX3 TX3 3, w ∈ wsX3_append := by decide +kernel
  refine lv_aload_n hx hb dX3_append_0 rfl (lv_at hl 0 rfl) ?_
  refine g_get (C := RX3) (T := TX3) (NN := 3) (ci := 3) hx hb hts hinX3 hown hE hG (k := 4) (by omega) rfl rfl 2 (by decide) (hts (.fieldLink RX3 15 "Commutator$Line" "end" "I") (List.mem_of_getElem? (i := 1) rfl)) rfl (v := .int (A 4 2)) rfl dX3_append_1 ?_
  refine g_top (y := nI e) (he) ?_
  refine lv_aload_n hx hb dX3_append_4 rfl (lv_at hl 0 rfl) ?_
  refine g_get (C := RX3) (T := TX3) (NN := 3) (ci := 3) hx hb hts hinX3 hown hE hG (k := 4) (by omega) rfl rfl 0 (by decide) (hts (.fieldLink RX3 9 "Commutator$Line" "bits" "[I") (List.mem_of_getElem? (i := 2) rfl)) rfl (v := .ref (ad 5)) rfl dX3_append_5 ?_
  refine g_alen hx hb hE hG (k := 5) (t0 := 0) (v := nI 8000) (by omega) rfl rfl rfl dX3_append_8 ?_
  refine lv_icmp_ge (tgt := 32) hx hb dX3_append_9 (by decide) (fun c9 => ?_) (fun c9 => ?_)
  · skip
    have c9 : 8000 ≤ e := (nI_leI (by omega) (by omega)).mp c9
    exfalso; omega
  · skip
    have c9 : ¬ (8000 ≤ e) := fun z9 => c9 ((nI_leI (by omega) (by omega)).mpr z9)
    refine lv_aload_n hx hb dX3_append_12 rfl (lv_at hl 0 rfl) ?_
    refine g_get (C := RX3) (T := TX3) (NN := 3) (ci := 3) hx hb hts hinX3 hown hE hG (k := 4) (by omega) rfl rfl 0 (by decide) (hts (.fieldLink RX3 9 "Commutator$Line" "bits" "[I") (List.mem_of_getElem? (i := 2) rfl)) rfl (v := .ref (ad 5)) rfl dX3_append_13 ?_
    refine lv_aload_n hx hb dX3_append_16 rfl (lv_at hl 0 rfl) ?_
    refine g_get (C := RX3) (T := TX3) (NN := 3) (ci := 3) hx hb hts hinX3 hown hE hG (k := 4) (by omega) rfl rfl 2 (by decide) (hts (.fieldLink RX3 15 "Commutator$Line" "end" "I") (List.mem_of_getElem? (i := 1) rfl)) rfl (v := .int (A 4 2)) rfl dX3_append_17 ?_
    refine g_top (y := nI e) (he) ?_
    refine lv_iload_n hx hb dX3_append_20 rfl (lv_at hl 1 rfl) ?_
    refine g_iast hx hb hE hG (k := 5) (by omega) (fun _ => rfl) e (rfl) (by omega) (by omega) dX3_append_21 (fun H locs hG => ?_)
    refine lv_aload_n hx hb dX3_append_22 rfl (lv_at hl 0 rfl) ?_
    refine lv_dup hx hb dX3_append_23 rfl ?_
    refine g_get (C := RX3) (T := TX3) (NN := 3) (ci := 3) hx hb hts hinX3 hown hE hG (k := 4) (by omega) rfl rfl 2 (by decide) (hts (.fieldLink RX3 15 "Commutator$Line" "end" "I") (List.mem_of_getElem? (i := 1) rfl)) rfl (v := .int (A 4 2)) rfl dX3_append_24 ?_
    refine g_top (y := nI e) (he) ?_
    refine lv_iconst (v := nI 1) hx hb dX3_append_27 (by decide) ?_
    refine lv_iadd hx hb dX3_append_28 ?_
    refine g_top (y := nI (e + 1)) (by rw [nI_add]) ?_
    refine g_puti (C := RX3) (T := TX3) (NN := 3) (ci := 3) hx hb hts hinX3 tyX3 tyX3_ok nmX3 hown hE hG (k := 4) (by omega) rfl rfl 2 (by decide) (hts (.fieldLink RX3 15 "Commutator$Line" "end" "I") (List.mem_of_getElem? (i := 1) rfl)) rfl rfl (ty := .int) (v := nI (e + 1)) (by decide +kernel) rfl rfl (Nat.le_of_ble_eq_true rfl) rfl dX3_append_29 (fun H locs hG => ?_)
    exact g_vret hx hb hr hlocks hG ⟨rfl, rfl, rfl⟩ dX3_append_32

abbrev PX3_look (ad : Nat → Nat) (A : Nat → Nat → Int32) (J : Nat → Nat → Int64) (h e : Nat) (j : Nat) : Option Value → (Nat → Nat → Int32) → (Nat → Nat → Int64) → Prop := fun v_ A1 J1 => (v_ = some (.int (A 5 (h + j))) ∧ A = A1 ∧ J = J1)
set_option maxHeartbeats 4000000 in
set_option maxRecDepth 100000 in
theorem cX3_lookC (l : Launch) (D : va_G) (cy : Nat → ClassId) (base : Nat) (ad : Nat → Nat) (n : Nat) (A : Nat → Nat → Int32) (J : Nat → Nat → Int64) (h e : Nat) (j : Nat) (hh : A 4 1 = nI h) (he : A 4 2 = nI e) (hle : h ≤ e) (he8 : e ≤ 8000) (hj : j < e - h) : gMet l yX3_look wsX3_look ({ frames := 2, cells := 0, slots := 0, locals := 42 } : Room) D cy base ad n A J [.ref (ad 4), .int (nI j)] (PX3_look ad A J h e j) := by
  refine g_ofW (cc := cX3_look) (maxL := 2) (ret := (some .int)) (by decide) rfl (Nat.le_of_ble_eq_true rfl) ?_
  intro p9 e9 s9 m9 a9 b9 meth9 c9 H locs ls hx hb hr hts hown hlocks hml hE hG hl
  have hl : lv_has ls 2 [(0, .ref (ad 4)), (1, .int (nI j))] := hl
  have hinX3 : ∀ w ∈ u_ws RX3 TX3 3, w ∈ wsX3_look := by decide +kernel
  refine lv_aload_n hx hb dX3_look_0 rfl (lv_at hl 0 rfl) ?_
  refine lv_iload_n hx hb dX3_look_1 rfl (lv_at hl 1 rfl) ?_
  refine lv_iconst (v := nI 1) hx hb dX3_look_2 (by decide) ?_
  refine g_callV (As := [.int (nI j), .int (nI 1)]) (rest := []) (r := (RX3, TX3, 3)) ⟨hx, hb, hml, hown, hts⟩ hE hG (cX3_holdsC l D cy base ad n A J _ _ (nI j) (nI 1) (by first | assumption | omega) (by first | assumption | omega) (by first | assumption | omega) (by first | assumption | omega)) (cwV 2 hts gX3_look_X3_holds rfl rfl rfl (by decide +kernel) ⟨Nat.le_of_ble_eq_true rfl, Nat.le_of_ble_eq_true rfl⟩) (by omega) rfl rfl rfl hl.1 rfl (Nat.le_of_ble_eq_true rfl) dX3_look_3 ⟨Nat.zero_le _, Nat.zero_le _⟩ (fun v_ A3 J3 H locs hp hG => ?_)
  rcases hp with ⟨rfl, rfl, rfl, hC_3⟩ | ⟨rfl, rfl, rfl, hC_3⟩
  · refine W.eq (g2 := F0 m9 6 ls [.int (nI 1)]) rfl ?_
    refine lv_if_eq (tgt := 23) hx hb dX3_look_6 (by decide) (fun c6 => ?_) (fun c6 => ?_)
    · skip
      exact absurd c6 (by decide)
    · skip
      refine lv_aload_n hx hb dX3_look_9 rfl (lv_at hl 0 rfl) ?_
      refine g_get (C := RX3) (T := TX3) (NN := 3) (ci := 3) hx hb hts hinX3 hown hE hG (k := 4) (by omega) rfl rfl 0 (by decide) (hts (.fieldLink RX3 9 "Commutator$Line" "bits" "[I") (List.mem_of_getElem? (i := 1) rfl)) rfl (v := .ref (ad 5)) rfl dX3_look_10 ?_
      refine lv_aload_n hx hb dX3_look_13 rfl (lv_at hl 0 rfl) ?_
      refine g_get (C := RX3) (T := TX3) (NN := 3) (ci := 3) hx hb hts hinX3 hown hE hG (k := 4) (by omega) rfl rfl 1 (by decide) (hts (.fieldLink RX3 19 "Commutator$Line" "head" "I") (List.mem_of_getElem? (i := 2) rfl)) rfl (v := .int (A 4 1)) rfl dX3_look_14 ?_
      refine g_top (y := nI h) (hh) ?_
      refine lv_iload_n hx hb dX3_look_17 rfl (lv_at hl 1 rfl) ?_
      refine lv_iadd hx hb dX3_look_18 ?_
      refine g_top (y := nI (h + j)) (by rw [nI_add]) ?_
      refine g_iald hx hb hE hG (k := 5) (by omega) rfl (h + j) (rfl) (by omega) (by omega) dX3_look_19 ?_
      refine lv_goto (tgt := 24) hx hb dX3_look_20 (by decide) ?_
      exact g_iret hx hb hr hlocks hG ⟨rfl, rfl, rfl⟩ dX3_look_24
  · refine W.eq (g2 := F0 m9 6 ls [.int (nI 0)]) rfl ?_
    exfalso; apply hC_3; simp only [nI_toInt (show j < 2 ^ 31 by omega), nI_toInt (show 1 < 2 ^ 31 by decide)]; omega

abbrev PX3_takeFirst (ad : Nat → Nat) (A : Nat → Nat → Int32) (J : Nat → Nat → Int64) (h e : Nat) : Option Value → (Nat → Nat → Int32) → (Nat → Nat → Int64) → Prop := fun v_ A1 J1 => (v_ = some (.int (A 5 h)) ∧ gu A 4 1 (nI (h + 1)) = A1 ∧ J = J1)
set_option maxHeartbeats 4000000 in
set_option maxRecDepth 100000 in
theorem cX3_takeFirstC (l : Launch) (D : va_G) (cy : Nat → ClassId) (base : Nat) (ad : Nat → Nat) (n : Nat) (A : Nat → Nat → Int32) (J : Nat → Nat → Int64) (h e : Nat) (hh : A 4 1 = nI h) (he : A 4 2 = nI e) (hle : h ≤ e) (he8 : e ≤ 8000) (hlt : h < e) : gMet l yX3_takeFirst wsX3_takeFirst ({ frames := 2, cells := 0, slots := 0, locals := 42 } : Room) D cy base ad n A J [.ref (ad 4)] (PX3_takeFirst ad A J h e) := by
  refine g_ofW (cc := cX3_takeFirst) (maxL := 2) (ret := (some .int)) (by decide) rfl (Nat.le_of_ble_eq_true rfl) ?_
  intro p9 e9 s9 m9 a9 b9 meth9 c9 H locs ls hx hb hr hts hown hlocks hml hE hG hl
  have hl : lv_has ls 2 [(0, .ref (ad 4))] := hl
  have hinX3 : ∀ w ∈ u_ws RX3 TX3 3, w ∈ wsX3_takeFirst := by decide +kernel
  refine lv_aload_n hx hb dX3_takeFirst_0 rfl (lv_at hl 0 rfl) ?_
  refine lv_iconst (v := nI 0) hx hb dX3_takeFirst_1 (by decide) ?_
  refine lv_iconst (v := nI 1) hx hb dX3_takeFirst_2 (by decide) ?_
  refine g_callV (As := [.int (nI 0), .int (nI 1)]) (rest := []) (r := (RX3, TX3, 3)) ⟨hx, hb, hml, hown, hts⟩ hE hG (cX3_holdsC l D cy base ad n A J _ _ (nI 0) (nI 1) (by first | assumption | omega) (by first | assumption | omega) (by first | assumption | omega) (by first | assumption | omega)) (cwV 2 hts gX3_takeFirst_X3_holds rfl rfl rfl (by decide +kernel) ⟨Nat.le_of_ble_eq_true rfl, Nat.le_of_ble_eq_true rfl⟩) (by omega) rfl rfl rfl hl.1 rfl (Nat.le_of_ble_eq_true rfl) dX3_takeFirst_3 ⟨Nat.zero_le _, Nat.zero_le _⟩ (fun v_ A3 J3 H locs hp hG => ?_)
  rcases hp with ⟨rfl, rfl, rfl, hC_3⟩ | ⟨rfl, rfl, rfl, hC_3⟩
  · refine W.eq (g2 := F0 m9 6 ls [.int (nI 1)]) rfl ?_
    refine lv_if_ne (tgt := 11) hx hb dX3_takeFirst_6 (by decide) (fun c6 => ?_) (fun c6 => ?_)
    · skip
      refine lv_aload_n hx hb dX3_takeFirst_11 rfl (lv_at hl 0 rfl) ?_
      refine g_get (C := RX3) (T := TX3) (NN := 3) (ci := 3) hx hb hts hinX3 hown hE hG (k := 4) (by omega) rfl rfl 0 (by decide) (hts (.fieldLink RX3 9 "Commutator$Line" "bits" "[I") (List.mem_of_getElem? (i := 1) rfl)) rfl (v := .ref (ad 5)) rfl dX3_takeFirst_12 ?_
      refine lv_aload_n hx hb dX3_takeFirst_15 rfl (lv_at hl 0 rfl) ?_
      refine g_get (C := RX3) (T := TX3) (NN := 3) (ci := 3) hx hb hts hinX3 hown hE hG (k := 4) (by omega) rfl rfl 1 (by decide) (hts (.fieldLink RX3 19 "Commutator$Line" "head" "I") (List.mem_of_getElem? (i := 2) rfl)) rfl (v := .int (A 4 1)) rfl dX3_takeFirst_16 ?_
      refine g_top (y := nI h) (hh) ?_
      refine g_iald hx hb hE hG (k := 5) (by omega) rfl h (rfl) (by omega) (by omega) dX3_takeFirst_19 ?_
      refine lv_istore_n (lv' := [(1, .int (A 5 h)), (0, .ref (ad 4))]) hx hb dX3_takeFirst_20 rfl hl (by decide) rfl (fun ls hl => ?_)
      refine lv_aload_n hx hb dX3_takeFirst_21 rfl (lv_at hl 1 rfl) ?_
      refine lv_dup hx hb dX3_takeFirst_22 rfl ?_
      refine g_get (C := RX3) (T := TX3) (NN := 3) (ci := 3) hx hb hts hinX3 hown hE hG (k := 4) (by omega) rfl rfl 1 (by decide) (hts (.fieldLink RX3 19 "Commutator$Line" "head" "I") (List.mem_of_getElem? (i := 2) rfl)) rfl (v := .int (A 4 1)) rfl dX3_takeFirst_23 ?_
      refine g_top (y := nI h) (hh) ?_
      refine lv_iconst (v := nI 1) hx hb dX3_takeFirst_26 (by decide) ?_
      refine lv_iadd hx hb dX3_takeFirst_27 ?_
      refine g_top (y := nI (h + 1)) (by rw [nI_add]) ?_
      refine g_puti (C := RX3) (T := TX3) (NN := 3) (ci := 3) hx hb hts hinX3 tyX3 tyX3_ok nmX3 hown hE hG (k := 4) (by omega) rfl rfl 1 (by decide) (hts (.fieldLink RX3 19 "Commutator$Line" "head" "I") (List.mem_of_getElem? (i := 2) rfl)) rfl rfl (ty := .int) (v := nI (h + 1)) (by decide +kernel) rfl rfl (Nat.le_of_ble_eq_true rfl) rfl dX3_takeFirst_28 (fun H locs hG => ?_)
      refine lv_iload_n hx hb dX3_takeFirst_31 rfl (lv_at hl 0 rfl) ?_
      exact g_iret hx hb hr hlocks hG ⟨rfl, rfl, rfl⟩ dX3_takeFirst_32
    · skip
      exact absurd c6 (by decide)
  · refine W.eq (g2 := F0 m9 6 ls [.int (nI 0)]) rfl ?_
    exfalso; apply hC_3; simp only [nI_toInt (show 0 < 2 ^ 31 by decide), nI_toInt (show 1 < 2 ^ 31 by decide)]; omega

abbrev PX3_turnOver (ad : Nat → Nat) (A : Nat → Nat → Int32) (J : Nat → Nat → Int64) (h e : Nat) (j : Nat) : Option Value → (Nat → Nat → Int32) → (Nat → Nat → Int64) → Prop := fun v_ A1 J1 => (v_ = some (.int (A 5 (h + j) ^^^ nI 1)) ∧ gu A 5 (h + j) (A 5 (h + j) ^^^ nI 1) = A1 ∧ J = J1)
set_option maxHeartbeats 4000000 in
set_option maxRecDepth 100000 in
theorem cX3_turnOverC (l : Launch) (D : va_G) (cy : Nat → ClassId) (base : Nat) (ad : Nat → Nat) (n : Nat) (A : Nat → Nat → Int32) (J : Nat → Nat → Int64) (h e : Nat) (j : Nat) (hh : A 4 1 = nI h) (he : A 4 2 = nI e) (hle : h ≤ e) (he8 : e ≤ 8000) (hj : j < e - h) : gMet l yX3_turnOver wsX3_turnOver ({ frames := 2, cells := 0, slots := 0, locals := 42 } : Room) D cy base ad n A J [.ref (ad 4), .int (nI j)] (PX3_turnOver ad A J h e j) := by
  refine g_ofW (cc := cX3_turnOver) (maxL := 2) (ret := (some .int)) (by decide) rfl (Nat.le_of_ble_eq_true rfl) ?_
  intro p9 e9 s9 m9 a9 b9 meth9 c9 H locs ls hx hb hr hts hown hlocks hml hE hG hl
  have hl : lv_has ls 2 [(0, .ref (ad 4)), (1, .int (nI j))] := hl
  have hinX3 : ∀ w ∈ u_ws RX3 TX3 3, w ∈ wsX3_turnOver := by decide +kernel
  refine lv_aload_n hx hb dX3_turnOver_0 rfl (lv_at hl 0 rfl) ?_
  refine lv_iload_n hx hb dX3_turnOver_1 rfl (lv_at hl 1 rfl) ?_
  refine lv_iconst (v := nI 1) hx hb dX3_turnOver_2 (by decide) ?_
  refine g_callV (As := [.int (nI j), .int (nI 1)]) (rest := []) (r := (RX3, TX3, 3)) ⟨hx, hb, hml, hown, hts⟩ hE hG (cX3_holdsC l D cy base ad n A J _ _ (nI j) (nI 1) (by first | assumption | omega) (by first | assumption | omega) (by first | assumption | omega) (by first | assumption | omega)) (cwV 2 hts gX3_turnOver_X3_holds rfl rfl rfl (by decide +kernel) ⟨Nat.le_of_ble_eq_true rfl, Nat.le_of_ble_eq_true rfl⟩) (by omega) rfl rfl rfl hl.1 rfl (Nat.le_of_ble_eq_true rfl) dX3_turnOver_3 ⟨Nat.zero_le _, Nat.zero_le _⟩ (fun v_ A3 J3 H locs hp hG => ?_)
  rcases hp with ⟨rfl, rfl, rfl, hC_3⟩ | ⟨rfl, rfl, rfl, hC_3⟩
  · refine W.eq (g2 := F0 m9 6 ls [.int (nI 1)]) rfl ?_
    refine lv_if_ne (tgt := 11) hx hb dX3_turnOver_6 (by decide) (fun c6 => ?_) (fun c6 => ?_)
    · skip
      refine lv_aload_n hx hb dX3_turnOver_11 rfl (lv_at hl 0 rfl) ?_
      refine g_get (C := RX3) (T := TX3) (NN := 3) (ci := 3) hx hb hts hinX3 hown hE hG (k := 4) (by omega) rfl rfl 0 (by decide) (hts (.fieldLink RX3 9 "Commutator$Line" "bits" "[I") (List.mem_of_getElem? (i := 1) rfl)) rfl (v := .ref (ad 5)) rfl dX3_turnOver_12 ?_
      refine lv_aload_n hx hb dX3_turnOver_15 rfl (lv_at hl 0 rfl) ?_
      refine g_get (C := RX3) (T := TX3) (NN := 3) (ci := 3) hx hb hts hinX3 hown hE hG (k := 4) (by omega) rfl rfl 1 (by decide) (hts (.fieldLink RX3 19 "Commutator$Line" "head" "I") (List.mem_of_getElem? (i := 2) rfl)) rfl (v := .int (A 4 1)) rfl dX3_turnOver_16 ?_
      refine g_top (y := nI h) (hh) ?_
      refine lv_iload_n hx hb dX3_turnOver_19 rfl (lv_at hl 1 rfl) ?_
      refine lv_iadd hx hb dX3_turnOver_20 ?_
      refine g_top (y := nI (h + j)) (by rw [nI_add]) ?_
      refine lv_dup2_11 hx hb dX3_turnOver_21 rfl rfl ?_
      refine g_iald hx hb hE hG (k := 5) (by omega) rfl (h + j) (rfl) (by omega) (by omega) dX3_turnOver_22 ?_
      refine lv_iconst (v := nI 1) hx hb dX3_turnOver_23 (by decide) ?_
      refine lv_ixor hx hb dX3_turnOver_24 ?_
      refine g_iast hx hb hE hG (k := 5) (by omega) (fun _ => rfl) (h + j) (rfl) (by omega) (by omega) dX3_turnOver_25 (fun H locs hG => ?_)
      refine lv_aload_n hx hb dX3_turnOver_26 rfl (lv_at hl 0 rfl) ?_
      refine g_get (C := RX3) (T := TX3) (NN := 3) (ci := 3) hx hb hts hinX3 hown hE hG (k := 4) (by omega) rfl rfl 0 (by decide) (hts (.fieldLink RX3 9 "Commutator$Line" "bits" "[I") (List.mem_of_getElem? (i := 1) rfl)) rfl (v := .ref (ad 5)) rfl dX3_turnOver_27 ?_
      refine lv_aload_n hx hb dX3_turnOver_30 rfl (lv_at hl 0 rfl) ?_
      refine g_get (C := RX3) (T := TX3) (NN := 3) (ci := 3) hx hb hts hinX3 hown hE hG (k := 4) (by omega) rfl rfl 1 (by decide) (hts (.fieldLink RX3 19 "Commutator$Line" "head" "I") (List.mem_of_getElem? (i := 2) rfl)) rfl (v := .int (A 4 1)) rfl dX3_turnOver_31 ?_
      refine g_top (y := nI h) (hh) ?_
      refine lv_iload_n hx hb dX3_turnOver_34 rfl (lv_at hl 1 rfl) ?_
      refine lv_iadd hx hb dX3_turnOver_35 ?_
      refine g_top (y := nI (h + j)) (by rw [nI_add]) ?_
      refine g_iald hx hb hE hG (k := 5) (by omega) rfl (h + j) (rfl) (by omega) (by omega) dX3_turnOver_36 ?_
      refine g_top (y := (A 5 (h + j)) ^^^ (nI 1)) (by first | rfl | (simp [gu_at]; done) | (rw [gu_at]; simp; omega)) ?_
      exact g_iret hx hb hr hlocks hG ⟨rfl, rfl, rfl⟩ dX3_turnOver_37
    · skip
      exact absurd c6 (by decide)
  · refine W.eq (g2 := F0 m9 6 ls [.int (nI 0)]) rfl ?_
    exfalso; apply hC_3; simp only [nI_toInt (show j < 2 ^ 31 by omega), nI_toInt (show 1 < 2 ^ 31 by decide)]; omega
