abbrev PX8_latestWord (ad : Nat → Nat) (A : Nat → Nat → Int32) (J : Nat → Nat → Int64)  : Option Value → (Nat → Nat → Int32) → (Nat → Nat → Int64) → Prop := fun v_ A1 J1 => (v_ = some (.int (nI (lnat (J 7 2) % 256))) ∧ A = A1 ∧ J = J1)
set_option maxHeartbeats 4000000 in
set_option maxRecDepth 100000 in
theorem cX8_latestWordC (l : Launch) (D : va_G) (cy : Nat → ClassId) (base : Nat) (ad : Nat → Nat) (n : Nat) (A : Nat → Nat → Int32) (J : Nat → Nat → Int64)   : gMet l yX8_latestWord wsX8_latestWord ({ frames := 0, cells := 0, slots := 0, locals := 0 } : Room) D cy base ad n A J [.ref (ad 7)] (PX8_latestWord ad A J) := by
  refine g_ofW (cc := cX8_latestWord) (maxL := 1) (ret := (some .int)) (by decide) rfl (Nat.le_of_ble_eq_true rfl) ?_
  intro pM eM sM mM aM bM methM cM H locs ls hx hb hr hts hown hlocks hml hE hG hl
  have hl : lv_has ls 1 [(0, .ref (ad 7))] := hl
  have hinX8 : ∀ w ∈ u_ws RX8 TX8 7, w ∈ wsX8_latestWord := by decide +kernel
  refine lv_aload_n hx hb dX8_latestWord_0 rfl (lv_at hl 0 rfl) ?_
  refine g_get (C := RX8) (T := TX8) (NN := 7) (ci := 8) hx hb hts hinX8 hown hE hG (k := 7) (by omega) rfl rfl 2 (by decide) (hts (.fieldLink RX8 19 "Commutator$Synchroniser" "latest" "J") (List.mem_of_getElem? (i := 1) rfl)) rfl (v := .long (J 7 2)) rfl dX8_latestWord_1 ?_
  refine lv_l2i (v := (J 7 2).toInt32) hx hb dX8_latestWord_4 rfl ?_
  refine lv_sipush (v := nI 255) hx hb dX8_latestWord_5 (by decide) ?_
  refine lv_iand hx hb dX8_latestWord_8 ?_
  refine g_top (y := nI (lnat (J 7 2) % 256)) (ln_low _ 8 (by decide) (by decide)) ?_
  exact g_iret hx hb hr hlocks hG ⟨rfl, rfl, rfl⟩ dX8_latestWord_9

abbrev PX8_isSyncWord (ad : Nat → Nat) (A : Nat → Nat → Int32) (J : Nat → Nat → Int64)  : Option Value → (Nat → Nat → Int32) → (Nat → Nat → Int64) → Prop := fun v_ A1 J1 => (v_ = some (.int (nI 1)) ∧ A = A1 ∧ J = J1 ∧ (lnat (J 7 2) % 256 = 184)) ∨ (v_ = some (.int (nI 0)) ∧ A = A1 ∧ J = J1 ∧ (¬ (lnat (J 7 2) % 256 = 184)))
set_option maxHeartbeats 4000000 in
set_option maxRecDepth 100000 in
theorem cX8_isSyncWordC (l : Launch) (D : va_G) (cy : Nat → ClassId) (base : Nat) (ad : Nat → Nat) (n : Nat) (A : Nat → Nat → Int32) (J : Nat → Nat → Int64)   : gMet l yX8_isSyncWord wsX8_isSyncWord ({ frames := 1, cells := 0, slots := 0, locals := 20 } : Room) D cy base ad n A J [.ref (ad 7)] (PX8_isSyncWord ad A J) := by
  refine g_ofW (cc := cX8_isSyncWord) (maxL := 1) (ret := (some .boolean)) (by decide) rfl (Nat.le_of_ble_eq_true rfl) ?_
  intro pM eM sM mM aM bM methM cM H locs ls hx hb hr hts hown hlocks hml hE hG hl
  have hl : lv_has ls 1 [(0, .ref (ad 7))] := hl
  have hinX8 : ∀ w ∈ u_ws RX8 TX8 7, w ∈ wsX8_isSyncWord := by decide +kernel
  refine lv_aload_n hx hb dX8_isSyncWord_0 rfl (lv_at hl 0 rfl) ?_
  refine g_callV (As := []) (rest := []) (r := (RX8, TX8, 7)) ⟨hx, hb, hml, hown, hts⟩ hE hG (cX8_latestWordC l D cy base ad n A J ) (cwV 0 hts gX8_isSyncWord_X8_latestWord rfl rfl rfl (by decide +kernel) ⟨Nat.le_of_ble_eq_true rfl, Nat.le_of_ble_eq_true rfl⟩) (by omega) rfl rfl rfl hl.1 rfl (Nat.le_of_ble_eq_true rfl) dX8_isSyncWord_1 ⟨Nat.zero_le _, Nat.zero_le _⟩ (fun v_ A1 J1 H locs hp hG => ?_)
  obtain ⟨rfl, rfl, rfl⟩ := hp
  refine W.eq (g2 := F0 mM 4 ls [.int (nI (lnat (J 7 2) % 256))]) rfl ?_
  refine lv_sipush (v := nI 184) hx hb dX8_isSyncWord_4 (by decide) ?_
  refine lv_icmp_ne (tgt := 14) hx hb dX8_isSyncWord_7 (by decide) (fun c7 => ?_) (fun c7 => ?_)
  · skip
    have c7 : ¬ ((lnat (J 7 2) % 256) = 184) := fun z9 => c7 ((nI_eq (by omega) (by omega)).mpr z9)
    refine lv_iconst (v := nI 0) hx hb dX8_isSyncWord_14 (by decide) ?_
    exact g_zret hx hb hr hlocks hG rfl (by first | exact Or.inl ⟨rfl, rfl, rfl, (by first | omega | rfl | assumption)⟩ | exact Or.inr (⟨rfl, rfl, rfl, (by first | omega | rfl | assumption)⟩)) dX8_isSyncWord_15
  · skip
    have c7 : (lnat (J 7 2) % 256) = 184 := (nI_eq (by omega) (by omega)).mp c7
    refine lv_iconst (v := nI 1) hx hb dX8_isSyncWord_10 (by decide) ?_
    refine lv_goto (tgt := 15) hx hb dX8_isSyncWord_11 (by decide) ?_
    exact g_zret hx hb hr hlocks hG rfl (by first | exact Or.inl ⟨rfl, rfl, rfl, (by first | omega | rfl | assumption)⟩ | exact Or.inr (⟨rfl, rfl, rfl, (by first | omega | rfl | assumption)⟩)) dX8_isSyncWord_15

abbrev PX8_search (ad : Nat → Nat) (A : Nat → Nat → Int32) (J : Nat → Nat → Int64)  : Option Value → (Nat → Nat → Int32) → (Nat → Nat → Int64) → Prop := fun v_ A1 J1 => (v_ = none ∧ gu (gu (gu A 7 0 (nI 1)) 7 4 (nI 1)) 7 3 (nI 8) = A1 ∧ J = J1 ∧ (lnat (J 7 2) % 256 = 184)) ∨ (v_ = none ∧ A = A1 ∧ J = J1 ∧ (¬ (lnat (J 7 2) % 256 = 184)))
set_option maxHeartbeats 4000000 in
set_option maxRecDepth 100000 in
theorem cX8_searchC (l : Launch) (D : va_G) (cy : Nat → ClassId) (base : Nat) (ad : Nat → Nat) (n : Nat) (A : Nat → Nat → Int32) (J : Nat → Nat → Int64)   : gMet l yX8_search wsX8_search ({ frames := 2, cells := 0, slots := 0, locals := 40 } : Room) D cy base ad n A J [.ref (ad 7)] (PX8_search ad A J) := by
  refine g_ofW (cc := cX8_search) (maxL := 1) (ret := none) (by decide) rfl (Nat.le_of_ble_eq_true rfl) ?_
  intro pM eM sM mM aM bM methM cM H locs ls hx hb hr hts hown hlocks hml hE hG hl
  have hl : lv_has ls 1 [(0, .ref (ad 7))] := hl
  have hinX8 : ∀ w ∈ u_ws RX8 TX8 7, w ∈ wsX8_search := by decide +kernel
  refine lv_aload_n hx hb dX8_search_0 rfl (lv_at hl 0 rfl) ?_
  refine g_callV (As := []) (rest := []) (r := (RX8, TX8, 7)) ⟨hx, hb, hml, hown, hts⟩ hE hG (cX8_isSyncWordC l D cy base ad n A J ) (cwV 0 hts gX8_search_X8_isSyncWord rfl rfl rfl (by decide +kernel) ⟨Nat.le_of_ble_eq_true rfl, Nat.le_of_ble_eq_true rfl⟩) (by omega) rfl rfl rfl hl.1 rfl (Nat.le_of_ble_eq_true rfl) dX8_search_1 ⟨Nat.zero_le _, Nat.zero_le _⟩ (fun v_ A1 J1 H locs hp hG => ?_)
  rcases hp with ⟨rfl, rfl, rfl, hC_1⟩ | ⟨rfl, rfl, rfl, hC_1⟩
  · refine W.eq (g2 := F0 mM 4 ls [.int (nI 1)]) rfl ?_
    refine lv_if_eq (tgt := 23) hx hb dX8_search_4 (by decide) (fun c4 => ?_) (fun c4 => ?_)
    · skip
      exact absurd c4 (by decide)
    · skip
      refine lv_aload_n hx hb dX8_search_7 rfl (lv_at hl 0 rfl) ?_
      refine lv_iconst (v := nI 1) hx hb dX8_search_8 (by decide) ?_
      refine g_puti (C := RX8) (T := TX8) (NN := 7) (ci := 8) hx hb hts hinX8 tyX8 tyX8_ok nmX8 hown hE hG (k := 7) (by omega) rfl rfl 0 (by decide) (hts (.fieldLink RX8 9 "Commutator$Synchroniser" "mode" "I") (List.mem_of_getElem? (i := 1) rfl)) rfl rfl (ty := .int) (v := nI 1) (by decide +kernel) rfl rfl (Nat.le_of_ble_eq_true rfl) rfl dX8_search_9 (fun H locs hG => ?_)
      refine lv_aload_n hx hb dX8_search_12 rfl (lv_at hl 0 rfl) ?_
      refine lv_iconst (v := nI 1) hx hb dX8_search_13 (by decide) ?_
      refine g_puti (C := RX8) (T := TX8) (NN := 7) (ci := 8) hx hb hts hinX8 tyX8 tyX8_ok nmX8 hown hE hG (k := 7) (by omega) rfl rfl 4 (by decide) (hts (.fieldLink RX8 43 "Commutator$Synchroniser" "matchCount" "I") (List.mem_of_getElem? (i := 2) rfl)) rfl rfl (ty := .int) (v := nI 1) (by decide +kernel) rfl rfl (Nat.le_of_ble_eq_true rfl) rfl dX8_search_14 (fun H locs hG => ?_)
      refine lv_aload_n hx hb dX8_search_17 rfl (lv_at hl 0 rfl) ?_
      refine lv_bipush (v := nI 8) hx hb dX8_search_18 (by decide) ?_
      refine g_puti (C := RX8) (T := TX8) (NN := 7) (ci := 8) hx hb hts hinX8 tyX8 tyX8_ok nmX8 hown hE hG (k := 7) (by omega) rfl rfl 3 (by decide) (hts (.fieldLink RX8 33 "Commutator$Synchroniser" "bitsOfFrame" "I") (List.mem_of_getElem? (i := 3) rfl)) rfl rfl (ty := .int) (v := nI 8) (by decide +kernel) rfl rfl (Nat.le_of_ble_eq_true rfl) rfl dX8_search_20 (fun H locs hG => ?_)
      exact g_vret hx hb hr hlocks hG (by first | exact Or.inl ⟨rfl, rfl, rfl, (by first | omega | rfl | assumption)⟩ | exact Or.inr (⟨rfl, rfl, rfl, (by first | omega | rfl | assumption)⟩)) dX8_search_23
  · refine W.eq (g2 := F0 mM 4 ls [.int (nI 0)]) rfl ?_
    refine lv_if_eq (tgt := 23) hx hb dX8_search_4 (by decide) (fun c4 => ?_) (fun c4 => ?_)
    · skip
      exact g_vret hx hb hr hlocks hG (by first | exact Or.inl ⟨rfl, rfl, rfl, (by first | omega | rfl | assumption)⟩ | exact Or.inr (⟨rfl, rfl, rfl, (by first | omega | rfl | assumption)⟩)) dX8_search_23
    · skip
      exact absurd c4 (by decide)

abbrev PX8_check (ad : Nat → Nat) (A : Nat → Nat → Int32) (J : Nat → Nat → Int64) (mq : Int) : Option Value → (Nat → Nat → Int32) → (Nat → Nat → Int64) → Prop := fun v_ A1 J1 => (v_ = none ∧ gu A 7 0 (nI 0) = A1 ∧ J = J1 ∧ (¬ (lnat (J 7 2) % 256 = 184))) ∨ (v_ = none ∧ gu (gu (gu A 7 4 (zI (mq + 1))) 7 0 (nI 2)) 7 5 (nI 0) = A1 ∧ J = J1 ∧ (lnat (J 7 2) % 256 = 184 ∧ mq + 1 = 3)) ∨ (v_ = none ∧ gu A 7 4 (zI (mq + 1)) = A1 ∧ J = J1 ∧ (lnat (J 7 2) % 256 = 184 ∧ ¬ mq + 1 = 3))
set_option maxHeartbeats 4000000 in
set_option maxRecDepth 100000 in
theorem cX8_checkC (l : Launch) (D : va_G) (cy : Nat → ClassId) (base : Nat) (ad : Nat → Nat) (n : Nat) (A : Nat → Nat → Int32) (J : Nat → Nat → Int64) (mq : Int) (hmq : A 7 4 = zI mq ∧ 0 ≤ mq ∧ mq ≤ 8000) : gMet l yX8_check wsX8_check ({ frames := 2, cells := 0, slots := 0, locals := 40 } : Room) D cy base ad n A J [.ref (ad 7)] (PX8_check ad A J mq) := by
  refine g_ofW (cc := cX8_check) (maxL := 1) (ret := none) (by decide) rfl (Nat.le_of_ble_eq_true rfl) ?_
  intro pM eM sM mM aM bM methM cM H locs ls hx hb hr hts hown hlocks hml hE hG hl
  have hl : lv_has ls 1 [(0, .ref (ad 7))] := hl
  have hinX8 : ∀ w ∈ u_ws RX8 TX8 7, w ∈ wsX8_check := by decide +kernel
  refine lv_aload_n hx hb dX8_check_0 rfl (lv_at hl 0 rfl) ?_
  refine g_callV (As := []) (rest := []) (r := (RX8, TX8, 7)) ⟨hx, hb, hml, hown, hts⟩ hE hG (cX8_isSyncWordC l D cy base ad n A J ) (cwV 0 hts gX8_check_X8_isSyncWord rfl rfl rfl (by decide +kernel) ⟨Nat.le_of_ble_eq_true rfl, Nat.le_of_ble_eq_true rfl⟩) (by omega) rfl rfl rfl hl.1 rfl (Nat.le_of_ble_eq_true rfl) dX8_check_1 ⟨Nat.zero_le _, Nat.zero_le _⟩ (fun v_ A1 J1 H locs hp hG => ?_)
  rcases hp with ⟨rfl, rfl, rfl, hC_1⟩ | ⟨rfl, rfl, rfl, hC_1⟩
  · refine W.eq (g2 := F0 mM 4 ls [.int (nI 1)]) rfl ?_
    refine lv_if_ne (tgt := 13) hx hb dX8_check_4 (by decide) (fun c4 => ?_) (fun c4 => ?_)
    · skip
      refine lv_aload_n hx hb dX8_check_13 rfl (lv_at hl 0 rfl) ?_
      refine lv_dup hx hb dX8_check_14 rfl ?_
      refine g_get (C := RX8) (T := TX8) (NN := 7) (ci := 8) hx hb hts hinX8 hown hE hG (k := 7) (by omega) rfl rfl 4 (by decide) (hts (.fieldLink RX8 43 "Commutator$Synchroniser" "matchCount" "I") (List.mem_of_getElem? (i := 2) rfl)) rfl (v := .int (A 7 4)) rfl dX8_check_15 ?_
      refine g_top (y := zI mq) (hmq.1) ?_
      refine lv_iconst (v := nI 1) hx hb dX8_check_18 (by decide) ?_
      refine lv_iadd hx hb dX8_check_19 ?_
      refine g_top (y := zI (mq + 1)) (zI_add_in _ _) ?_
      refine g_puti (C := RX8) (T := TX8) (NN := 7) (ci := 8) hx hb hts hinX8 tyX8 tyX8_ok nmX8 hown hE hG (k := 7) (by omega) rfl rfl 4 (by decide) (hts (.fieldLink RX8 43 "Commutator$Synchroniser" "matchCount" "I") (List.mem_of_getElem? (i := 2) rfl)) rfl rfl (ty := .int) (v := zI (mq + 1)) (by decide +kernel) rfl rfl (Nat.le_of_ble_eq_true rfl) rfl dX8_check_20 (fun H locs hG => ?_)
      refine lv_aload_n hx hb dX8_check_23 rfl (lv_at hl 0 rfl) ?_
      refine g_get (C := RX8) (T := TX8) (NN := 7) (ci := 8) hx hb hts hinX8 hown hE hG (k := 7) (by omega) rfl rfl 4 (by decide) (hts (.fieldLink RX8 43 "Commutator$Synchroniser" "matchCount" "I") (List.mem_of_getElem? (i := 2) rfl)) rfl (v := .int (zI (mq + 1))) rfl dX8_check_24 ?_
      refine lv_iconst (v := nI 3) hx hb dX8_check_27 (by decide) ?_
      refine lv_icmp_ne (tgt := 41) hx hb dX8_check_28 (by decide) (fun c28 => ?_) (fun c28 => ?_)
      · skip
        have c28 : ¬ ((mq + 1) = ((3 : Nat) : Int)) := fun z9 => c28 ((cmp_eq (zI_toInt (by omega) (by omega)) (nI_toInt (by omega))).mpr z9)
        exact g_vret hx hb hr hlocks hG (by first | exact Or.inl ⟨rfl, rfl, rfl, (by first | omega | rfl | assumption)⟩ | exact Or.inr (Or.inl ⟨rfl, rfl, rfl, (by first | omega | rfl | assumption)⟩) | exact Or.inr (Or.inr (⟨rfl, rfl, rfl, (by first | omega | rfl | assumption)⟩))) dX8_check_41
      · skip
        have c28 : (mq + 1) = ((3 : Nat) : Int) := (cmp_eq (zI_toInt (by omega) (by omega)) (nI_toInt (by omega))).mp c28
        refine lv_aload_n hx hb dX8_check_31 rfl (lv_at hl 0 rfl) ?_
        refine lv_iconst (v := nI 2) hx hb dX8_check_32 (by decide) ?_
        refine g_puti (C := RX8) (T := TX8) (NN := 7) (ci := 8) hx hb hts hinX8 tyX8 tyX8_ok nmX8 hown hE hG (k := 7) (by omega) rfl rfl 0 (by decide) (hts (.fieldLink RX8 9 "Commutator$Synchroniser" "mode" "I") (List.mem_of_getElem? (i := 1) rfl)) rfl rfl (ty := .int) (v := nI 2) (by decide +kernel) rfl rfl (Nat.le_of_ble_eq_true rfl) rfl dX8_check_33 (fun H locs hG => ?_)
        refine lv_aload_n hx hb dX8_check_36 rfl (lv_at hl 0 rfl) ?_
        refine lv_iconst (v := nI 0) hx hb dX8_check_37 (by decide) ?_
        refine g_puti (C := RX8) (T := TX8) (NN := 7) (ci := 8) hx hb hts hinX8 tyX8 tyX8_ok nmX8 hown hE hG (k := 7) (by omega) rfl rfl 5 (by decide) (hts (.fieldLink RX8 52 "Commutator$Synchroniser" "missCount" "I") (List.mem_of_getElem? (i := 3) rfl)) rfl rfl (ty := .int) (v := nI 0) (by decide +kernel) rfl rfl (Nat.le_of_ble_eq_true rfl) rfl dX8_check_38 (fun H locs hG => ?_)
        exact g_vret hx hb hr hlocks hG (by first | exact Or.inl ⟨rfl, rfl, rfl, (by first | omega | rfl | assumption)⟩ | exact Or.inr (Or.inl ⟨rfl, rfl, rfl, (by first | omega | rfl | assumption)⟩) | exact Or.inr (Or.inr (⟨rfl, rfl, rfl, (by first | omega | rfl | assumption)⟩))) dX8_check_41
    · skip
      exact absurd c4 (by decide)
  · refine W.eq (g2 := F0 mM 4 ls [.int (nI 0)]) rfl ?_
    refine lv_if_ne (tgt := 13) hx hb dX8_check_4 (by decide) (fun c4 => ?_) (fun c4 => ?_)
    · skip
      exact absurd c4 (by decide)
    · skip
      refine lv_aload_n hx hb dX8_check_7 rfl (lv_at hl 0 rfl) ?_
      refine lv_iconst (v := nI 0) hx hb dX8_check_8 (by decide) ?_
      refine g_puti (C := RX8) (T := TX8) (NN := 7) (ci := 8) hx hb hts hinX8 tyX8 tyX8_ok nmX8 hown hE hG (k := 7) (by omega) rfl rfl 0 (by decide) (hts (.fieldLink RX8 9 "Commutator$Synchroniser" "mode" "I") (List.mem_of_getElem? (i := 1) rfl)) rfl rfl (ty := .int) (v := nI 0) (by decide +kernel) rfl rfl (Nat.le_of_ble_eq_true rfl) rfl dX8_check_9 (fun H locs hG => ?_)
      exact g_vret hx hb hr hlocks hG (by first | exact Or.inl ⟨rfl, rfl, rfl, (by first | omega | rfl | assumption)⟩ | exact Or.inr (Or.inl ⟨rfl, rfl, rfl, (by first | omega | rfl | assumption)⟩) | exact Or.inr (Or.inr (⟨rfl, rfl, rfl, (by first | omega | rfl | assumption)⟩))) dX8_check_12

abbrev PX8_keepLock (ad : Nat → Nat) (A : Nat → Nat → Int32) (J : Nat → Nat → Int64) (cq : Int) : Option Value → (Nat → Nat → Int32) → (Nat → Nat → Int64) → Prop := fun v_ A1 J1 => (v_ = none ∧ gu A 7 5 (nI 0) = A1 ∧ J = J1 ∧ (nCnt ((lnat (J 7 2) % 256) ^^^ 184) 8 ≤ 1)) ∨ (v_ = none ∧ gu (gu A 7 5 (zI (cq + 1))) 7 0 (nI 0) = A1 ∧ J = J1 ∧ (¬ (nCnt ((lnat (J 7 2) % 256) ^^^ 184) 8 ≤ 1) ∧ cq + 1 = 2)) ∨ (v_ = none ∧ gu A 7 5 (zI (cq + 1)) = A1 ∧ J = J1 ∧ (¬ (nCnt ((lnat (J 7 2) % 256) ^^^ 184) 8 ≤ 1) ∧ ¬ cq + 1 = 2))
set_option maxHeartbeats 4000000 in
set_option maxRecDepth 100000 in
theorem cX8_keepLockC (l : Launch) (D : va_G) (cy : Nat → ClassId) (base : Nat) (ad : Nat → Nat) (n : Nat) (A : Nat → Nat → Int32) (J : Nat → Nat → Int64) (cq : Int) (hcq : A 7 5 = zI cq ∧ 0 ≤ cq ∧ cq ≤ 8000) : gMet l yX8_keepLock wsX8_keepLock ({ frames := 1, cells := 0, slots := 0, locals := 20 } : Room) D cy base ad n A J [.ref (ad 7)] (PX8_keepLock ad A J cq) := by
  refine g_ofW (cc := cX8_keepLock) (maxL := 1) (ret := none) (by decide) rfl (Nat.le_of_ble_eq_true rfl) ?_
  intro pM eM sM mM aM bM methM cM H locs ls hx hb hr hts hown hlocks hml hE hG hl
  have hl : lv_has ls 1 [(0, .ref (ad 7))] := hl
  have hinX8 : ∀ w ∈ u_ws RX8 TX8 7, w ∈ wsX8_keepLock := by decide +kernel
  have hx8 := xor184 (lnat (J 7 2) % 256) (by omega)
  have hn8 := nCnt_le ((lnat (J 7 2) % 256) ^^^ 184) 8
  refine lv_aload_n hx hb dX8_keepLock_0 rfl (lv_at hl 0 rfl) ?_
  refine g_callV (As := []) (rest := []) (r := (RX8, TX8, 7)) ⟨hx, hb, hml, hown, hts⟩ hE hG (cX8_latestWordC l D cy base ad n A J ) (cwV 0 hts gX8_keepLock_X8_latestWord rfl rfl rfl (by decide +kernel) ⟨Nat.le_of_ble_eq_true rfl, Nat.le_of_ble_eq_true rfl⟩) (by omega) rfl rfl rfl hl.1 rfl (Nat.le_of_ble_eq_true rfl) dX8_keepLock_1 ⟨Nat.zero_le _, Nat.zero_le _⟩ (fun v_ A1 J1 H locs hp hG => ?_)
  obtain ⟨rfl, rfl, rfl⟩ := hp
  refine W.eq (g2 := F0 mM 4 ls [.int (nI (lnat (J 7 2) % 256))]) rfl ?_
  refine lv_sipush (v := nI 184) hx hb dX8_keepLock_4 (by decide) ?_
  refine lv_ixor hx hb dX8_keepLock_7 ?_
  refine g_top (y := nI ((lnat (J 7 2) % 256) ^^^ 184)) (hx8.1) ?_
  refine g_callS (As := [.int (nI ((lnat (J 7 2) % 256) ^^^ 184))]) (rest := []) ⟨hx, hb, hml, hown, hts⟩ hE hG (cJ6_bitCount_0f7a4C l D cy base ad n A J ((lnat (J 7 2) % 256) ^^^ 184) hx8.2) (va_cwS 1 hts gX8_keepLock_J6_bitCount_0f7a4 rfl rfl rfl (by decide +kernel) ⟨Nat.le_of_ble_eq_true rfl, Nat.le_of_ble_eq_true rfl⟩) rfl hl.1 rfl (Nat.le_of_ble_eq_true rfl) dX8_keepLock_8 ⟨Nat.zero_le _, Nat.zero_le _⟩ (fun v_ A8 J8 H locs hp hG => ?_)
  obtain ⟨rfl, rfl, rfl⟩ := hp
  refine W.eq (g2 := F0 mM 11 ls [.int (nI (nCnt ((lnat (J 7 2) % 256) ^^^ 184) 8))]) rfl ?_
  refine lv_iconst (v := nI 1) hx hb dX8_keepLock_11 (by decide) ?_
  refine lv_icmp_gt (tgt := 21) hx hb dX8_keepLock_12 (by decide) (fun c12 => ?_) (fun c12 => ?_)
  · skip
    have c12 : 1 < (nCnt ((lnat (J 7 2) % 256) ^^^ 184) 8) := (nI_ltI (by omega) (by omega)).mp c12
    refine lv_aload_n hx hb dX8_keepLock_21 rfl (lv_at hl 0 rfl) ?_
    refine lv_dup hx hb dX8_keepLock_22 rfl ?_
    refine g_get (C := RX8) (T := TX8) (NN := 7) (ci := 8) hx hb hts hinX8 hown hE hG (k := 7) (by omega) rfl rfl 5 (by decide) (hts (.fieldLink RX8 52 "Commutator$Synchroniser" "missCount" "I") (List.mem_of_getElem? (i := 1) rfl)) rfl (v := .int (A 7 5)) rfl dX8_keepLock_23 ?_
    refine g_top (y := zI cq) (hcq.1) ?_
    refine lv_iconst (v := nI 1) hx hb dX8_keepLock_26 (by decide) ?_
    refine lv_iadd hx hb dX8_keepLock_27 ?_
    refine g_top (y := zI (cq + 1)) (zI_add_in _ _) ?_
    refine g_puti (C := RX8) (T := TX8) (NN := 7) (ci := 8) hx hb hts hinX8 tyX8 tyX8_ok nmX8 hown hE hG (k := 7) (by omega) rfl rfl 5 (by decide) (hts (.fieldLink RX8 52 "Commutator$Synchroniser" "missCount" "I") (List.mem_of_getElem? (i := 1) rfl)) rfl rfl (ty := .int) (v := zI (cq + 1)) (by decide +kernel) rfl rfl (Nat.le_of_ble_eq_true rfl) rfl dX8_keepLock_28 (fun H locs hG => ?_)
    refine lv_aload_n hx hb dX8_keepLock_31 rfl (lv_at hl 0 rfl) ?_
    refine g_get (C := RX8) (T := TX8) (NN := 7) (ci := 8) hx hb hts hinX8 hown hE hG (k := 7) (by omega) rfl rfl 5 (by decide) (hts (.fieldLink RX8 52 "Commutator$Synchroniser" "missCount" "I") (List.mem_of_getElem? (i := 1) rfl)) rfl (v := .int (zI (cq + 1))) rfl dX8_keepLock_32 ?_
    refine lv_iconst (v := nI 2) hx hb dX8_keepLock_35 (by decide) ?_
    refine lv_icmp_ne (tgt := 44) hx hb dX8_keepLock_36 (by decide) (fun c36 => ?_) (fun c36 => ?_)
    · skip
      have c36 : ¬ ((cq + 1) = ((2 : Nat) : Int)) := fun z9 => c36 ((cmp_eq (zI_toInt (by omega) (by omega)) (nI_toInt (by omega))).mpr z9)
      exact g_vret hx hb hr hlocks hG (by first | exact Or.inl ⟨rfl, rfl, rfl, (by first | omega | rfl | assumption)⟩ | exact Or.inr (Or.inl ⟨rfl, rfl, rfl, (by first | omega | rfl | assumption)⟩) | exact Or.inr (Or.inr (⟨rfl, rfl, rfl, (by first | omega | rfl | assumption)⟩))) dX8_keepLock_44
    · skip
      have c36 : (cq + 1) = ((2 : Nat) : Int) := (cmp_eq (zI_toInt (by omega) (by omega)) (nI_toInt (by omega))).mp c36
      refine lv_aload_n hx hb dX8_keepLock_39 rfl (lv_at hl 0 rfl) ?_
      refine lv_iconst (v := nI 0) hx hb dX8_keepLock_40 (by decide) ?_
      refine g_puti (C := RX8) (T := TX8) (NN := 7) (ci := 8) hx hb hts hinX8 tyX8 tyX8_ok nmX8 hown hE hG (k := 7) (by omega) rfl rfl 0 (by decide) (hts (.fieldLink RX8 9 "Commutator$Synchroniser" "mode" "I") (List.mem_of_getElem? (i := 2) rfl)) rfl rfl (ty := .int) (v := nI 0) (by decide +kernel) rfl rfl (Nat.le_of_ble_eq_true rfl) rfl dX8_keepLock_41 (fun H locs hG => ?_)
      exact g_vret hx hb hr hlocks hG (by first | exact Or.inl ⟨rfl, rfl, rfl, (by first | omega | rfl | assumption)⟩ | exact Or.inr (Or.inl ⟨rfl, rfl, rfl, (by first | omega | rfl | assumption)⟩) | exact Or.inr (Or.inr (⟨rfl, rfl, rfl, (by first | omega | rfl | assumption)⟩))) dX8_keepLock_44
  · skip
    have c12 : ¬ (1 < (nCnt ((lnat (J 7 2) % 256) ^^^ 184) 8)) := fun z9 => c12 ((nI_ltI (by omega) (by omega)).mpr z9)
    refine lv_aload_n hx hb dX8_keepLock_15 rfl (lv_at hl 0 rfl) ?_
    refine lv_iconst (v := nI 0) hx hb dX8_keepLock_16 (by decide) ?_
    refine g_puti (C := RX8) (T := TX8) (NN := 7) (ci := 8) hx hb hts hinX8 tyX8 tyX8_ok nmX8 hown hE hG (k := 7) (by omega) rfl rfl 5 (by decide) (hts (.fieldLink RX8 52 "Commutator$Synchroniser" "missCount" "I") (List.mem_of_getElem? (i := 1) rfl)) rfl rfl (ty := .int) (v := nI 0) (by decide +kernel) rfl rfl (Nat.le_of_ble_eq_true rfl) rfl dX8_keepLock_17 (fun H locs hG => ?_)
    exact g_vret hx hb hr hlocks hG (by first | exact Or.inl ⟨rfl, rfl, rfl, (by first | omega | rfl | assumption)⟩ | exact Or.inr (Or.inl ⟨rfl, rfl, rfl, (by first | omega | rfl | assumption)⟩) | exact Or.inr (Or.inr (⟨rfl, rfl, rfl, (by first | omega | rfl | assumption)⟩))) dX8_keepLock_20

abbrev PX8_judgeSyncWord (ad : Nat → Nat) (A : Nat → Nat → Int32) (J : Nat → Nat → Int64) (sq mq cq : Int) : Option Value → (Nat → Nat → Int32) → (Nat → Nat → Int64) → Prop := fun v_ A1 J1 => (v_ = none ∧ gu A 7 0 (nI 0) = A1 ∧ J = J1 ∧ (sq = 1 ∧ ¬ (lnat (J 7 2) % 256 = 184))) ∨ (v_ = none ∧ gu (gu (gu A 7 4 (zI (mq + 1))) 7 0 (nI 2)) 7 5 (nI 0) = A1 ∧ J = J1 ∧ (sq = 1 ∧ lnat (J 7 2) % 256 = 184 ∧ mq + 1 = 3)) ∨ (v_ = none ∧ gu A 7 4 (zI (mq + 1)) = A1 ∧ J = J1 ∧ (sq = 1 ∧ lnat (J 7 2) % 256 = 184 ∧ ¬ mq + 1 = 3)) ∨ (v_ = none ∧ gu A 7 5 (nI 0) = A1 ∧ J = J1 ∧ (sq = 2 ∧ nCnt ((lnat (J 7 2) % 256) ^^^ 184) 8 ≤ 1)) ∨ (v_ = none ∧ gu (gu A 7 5 (zI (cq + 1))) 7 0 (nI 0) = A1 ∧ J = J1 ∧ (sq = 2 ∧ ¬ (nCnt ((lnat (J 7 2) % 256) ^^^ 184) 8 ≤ 1) ∧ cq + 1 = 2)) ∨ (v_ = none ∧ gu A 7 5 (zI (cq + 1)) = A1 ∧ J = J1 ∧ (sq = 2 ∧ ¬ (nCnt ((lnat (J 7 2) % 256) ^^^ 184) 8 ≤ 1) ∧ ¬ cq + 1 = 2))
set_option maxHeartbeats 4000000 in
set_option maxRecDepth 100000 in
theorem cX8_judgeSyncWordC (l : Launch) (D : va_G) (cy : Nat → ClassId) (base : Nat) (ad : Nat → Nat) (n : Nat) (A : Nat → Nat → Int32) (J : Nat → Nat → Int64) (sq mq cq : Int) (hsq : A 7 0 = zI sq ∧ (sq = 1 ∨ sq = 2)) (hmq : sq = 1 → A 7 4 = zI mq ∧ 0 ≤ mq ∧ mq ≤ 8000) (hcq : sq = 2 → A 7 5 = zI cq ∧ 0 ≤ cq ∧ cq ≤ 8000) : gMet l yX8_judgeSyncWord wsX8_judgeSyncWord ({ frames := 3, cells := 0, slots := 0, locals := 60 } : Room) D cy base ad n A J [.ref (ad 7)] (PX8_judgeSyncWord ad A J sq mq cq) := by
  refine g_ofW (cc := cX8_judgeSyncWord) (maxL := 1) (ret := none) (by decide) rfl (Nat.le_of_ble_eq_true rfl) ?_
  intro pM eM sM mM aM bM methM cM H locs ls hx hb hr hts hown hlocks hml hE hG hl
  have hl : lv_has ls 1 [(0, .ref (ad 7))] := hl
  have hinX8 : ∀ w ∈ u_ws RX8 TX8 7, w ∈ wsX8_judgeSyncWord := by decide +kernel
  refine lv_aload_n hx hb dX8_judgeSyncWord_0 rfl (lv_at hl 0 rfl) ?_
  refine g_get (C := RX8) (T := TX8) (NN := 7) (ci := 8) hx hb hts hinX8 hown hE hG (k := 7) (by omega) rfl rfl 0 (by decide) (hts (.fieldLink RX8 9 "Commutator$Synchroniser" "mode" "I") (List.mem_of_getElem? (i := 1) rfl)) rfl (v := .int (A 7 0)) rfl dX8_judgeSyncWord_1 ?_
  refine g_top (y := zI sq) (hsq.1) ?_
  refine lv_iconst (v := nI 1) hx hb dX8_judgeSyncWord_4 (by decide) ?_
  refine lv_icmp_ne (tgt := 15) hx hb dX8_judgeSyncWord_5 (by decide) (fun c5 => ?_) (fun c5 => ?_)
  · skip
    have c5 : ¬ (sq = ((1 : Nat) : Int)) := fun z9 => c5 ((cmp_eq (zI_toInt (by omega) (by omega)) (nI_toInt (by omega))).mpr z9)
    refine lv_aload_n hx hb dX8_judgeSyncWord_15 rfl (lv_at hl 0 rfl) ?_
    refine g_callV (As := []) (rest := []) (r := (RX8, TX8, 7)) ⟨hx, hb, hml, hown, hts⟩ hE hG (cX8_keepLockC l D cy base ad n A J cq (hcq (by omega))) (cwV 0 hts gX8_judgeSyncWord_X8_keepLock rfl rfl rfl (by decide +kernel) ⟨Nat.le_of_ble_eq_true rfl, Nat.le_of_ble_eq_true rfl⟩) (by omega) rfl rfl rfl hl.1 rfl (Nat.le_of_ble_eq_true rfl) dX8_judgeSyncWord_16 ⟨Nat.zero_le _, Nat.zero_le _⟩ (fun v_ A16 J16 H locs hp hG => ?_)
    rcases hp with ⟨rfl, rfl, rfl, hC_16⟩ | ⟨rfl, rfl, rfl, hC_16⟩ | ⟨rfl, rfl, rfl, hC_16⟩
    · refine W.eq (g2 := F0 mM 19 ls []) rfl ?_
      exact g_vret hx hb hr hlocks hG (by first | exact Or.inl ⟨rfl, rfl, rfl, (by first | omega | rfl | assumption)⟩ | exact Or.inr (Or.inl ⟨rfl, rfl, rfl, (by first | omega | rfl | assumption)⟩) | exact Or.inr (Or.inr (Or.inl ⟨rfl, rfl, rfl, (by first | omega | rfl | assumption)⟩)) | exact Or.inr (Or.inr (Or.inr (Or.inl ⟨rfl, rfl, rfl, (by first | omega | rfl | assumption)⟩))) | exact Or.inr (Or.inr (Or.inr (Or.inr (Or.inl ⟨rfl, rfl, rfl, (by first | omega | rfl | assumption)⟩)))) | exact Or.inr (Or.inr (Or.inr (Or.inr (Or.inr (⟨rfl, rfl, rfl, (by first | omega | rfl | assumption)⟩)))))) dX8_judgeSyncWord_19
    · refine W.eq (g2 := F0 mM 19 ls []) rfl ?_
      exact g_vret hx hb hr hlocks hG (by first | exact Or.inl ⟨rfl, rfl, rfl, (by first | omega | rfl | assumption)⟩ | exact Or.inr (Or.inl ⟨rfl, rfl, rfl, (by first | omega | rfl | assumption)⟩) | exact Or.inr (Or.inr (Or.inl ⟨rfl, rfl, rfl, (by first | omega | rfl | assumption)⟩)) | exact Or.inr (Or.inr (Or.inr (Or.inl ⟨rfl, rfl, rfl, (by first | omega | rfl | assumption)⟩))) | exact Or.inr (Or.inr (Or.inr (Or.inr (Or.inl ⟨rfl, rfl, rfl, (by first | omega | rfl | assumption)⟩)))) | exact Or.inr (Or.inr (Or.inr (Or.inr (Or.inr (⟨rfl, rfl, rfl, (by first | omega | rfl | assumption)⟩)))))) dX8_judgeSyncWord_19
    · refine W.eq (g2 := F0 mM 19 ls []) rfl ?_
      exact g_vret hx hb hr hlocks hG (by first | exact Or.inl ⟨rfl, rfl, rfl, (by first | omega | rfl | assumption)⟩ | exact Or.inr (Or.inl ⟨rfl, rfl, rfl, (by first | omega | rfl | assumption)⟩) | exact Or.inr (Or.inr (Or.inl ⟨rfl, rfl, rfl, (by first | omega | rfl | assumption)⟩)) | exact Or.inr (Or.inr (Or.inr (Or.inl ⟨rfl, rfl, rfl, (by first | omega | rfl | assumption)⟩))) | exact Or.inr (Or.inr (Or.inr (Or.inr (Or.inl ⟨rfl, rfl, rfl, (by first | omega | rfl | assumption)⟩)))) | exact Or.inr (Or.inr (Or.inr (Or.inr (Or.inr (⟨rfl, rfl, rfl, (by first | omega | rfl | assumption)⟩)))))) dX8_judgeSyncWord_19
  · skip
    have c5 : sq = ((1 : Nat) : Int) := (cmp_eq (zI_toInt (by omega) (by omega)) (nI_toInt (by omega))).mp c5
    refine lv_aload_n hx hb dX8_judgeSyncWord_8 rfl (lv_at hl 0 rfl) ?_
    refine g_callV (As := []) (rest := []) (r := (RX8, TX8, 7)) ⟨hx, hb, hml, hown, hts⟩ hE hG (cX8_checkC l D cy base ad n A J mq (hmq (by omega))) (cwV 0 hts gX8_judgeSyncWord_X8_check rfl rfl rfl (by decide +kernel) ⟨Nat.le_of_ble_eq_true rfl, Nat.le_of_ble_eq_true rfl⟩) (by omega) rfl rfl rfl hl.1 rfl (Nat.le_of_ble_eq_true rfl) dX8_judgeSyncWord_9 ⟨Nat.zero_le _, Nat.zero_le _⟩ (fun v_ A9 J9 H locs hp hG => ?_)
    rcases hp with ⟨rfl, rfl, rfl, hC_9⟩ | ⟨rfl, rfl, rfl, hC_9⟩ | ⟨rfl, rfl, rfl, hC_9⟩
    · refine W.eq (g2 := F0 mM 12 ls []) rfl ?_
      refine lv_goto (tgt := 19) hx hb dX8_judgeSyncWord_12 (by decide) ?_
      exact g_vret hx hb hr hlocks hG (by first | exact Or.inl ⟨rfl, rfl, rfl, (by first | omega | rfl | assumption)⟩ | exact Or.inr (Or.inl ⟨rfl, rfl, rfl, (by first | omega | rfl | assumption)⟩) | exact Or.inr (Or.inr (Or.inl ⟨rfl, rfl, rfl, (by first | omega | rfl | assumption)⟩)) | exact Or.inr (Or.inr (Or.inr (Or.inl ⟨rfl, rfl, rfl, (by first | omega | rfl | assumption)⟩))) | exact Or.inr (Or.inr (Or.inr (Or.inr (Or.inl ⟨rfl, rfl, rfl, (by first | omega | rfl | assumption)⟩)))) | exact Or.inr (Or.inr (Or.inr (Or.inr (Or.inr (⟨rfl, rfl, rfl, (by first | omega | rfl | assumption)⟩)))))) dX8_judgeSyncWord_19
    · refine W.eq (g2 := F0 mM 12 ls []) rfl ?_
      refine lv_goto (tgt := 19) hx hb dX8_judgeSyncWord_12 (by decide) ?_
      exact g_vret hx hb hr hlocks hG (by first | exact Or.inl ⟨rfl, rfl, rfl, (by first | omega | rfl | assumption)⟩ | exact Or.inr (Or.inl ⟨rfl, rfl, rfl, (by first | omega | rfl | assumption)⟩) | exact Or.inr (Or.inr (Or.inl ⟨rfl, rfl, rfl, (by first | omega | rfl | assumption)⟩)) | exact Or.inr (Or.inr (Or.inr (Or.inl ⟨rfl, rfl, rfl, (by first | omega | rfl | assumption)⟩))) | exact Or.inr (Or.inr (Or.inr (Or.inr (Or.inl ⟨rfl, rfl, rfl, (by first | omega | rfl | assumption)⟩)))) | exact Or.inr (Or.inr (Or.inr (Or.inr (Or.inr (⟨rfl, rfl, rfl, (by first | omega | rfl | assumption)⟩)))))) dX8_judgeSyncWord_19
    · refine W.eq (g2 := F0 mM 12 ls []) rfl ?_
      refine lv_goto (tgt := 19) hx hb dX8_judgeSyncWord_12 (by decide) ?_
      exact g_vret hx hb hr hlocks hG (by first | exact Or.inl ⟨rfl, rfl, rfl, (by first | omega | rfl | assumption)⟩ | exact Or.inr (Or.inl ⟨rfl, rfl, rfl, (by first | omega | rfl | assumption)⟩) | exact Or.inr (Or.inr (Or.inl ⟨rfl, rfl, rfl, (by first | omega | rfl | assumption)⟩)) | exact Or.inr (Or.inr (Or.inr (Or.inl ⟨rfl, rfl, rfl, (by first | omega | rfl | assumption)⟩))) | exact Or.inr (Or.inr (Or.inr (Or.inr (Or.inl ⟨rfl, rfl, rfl, (by first | omega | rfl | assumption)⟩)))) | exact Or.inr (Or.inr (Or.inr (Or.inr (Or.inr (⟨rfl, rfl, rfl, (by first | omega | rfl | assumption)⟩)))))) dX8_judgeSyncWord_19

abbrev PX8_syncWordsAt (ad : Nat → Nat) (A : Nat → Nat → Int32) (J : Nat → Nat → Int64) (oq : Nat) (mq : Int) : Option Value → (Nat → Nat → Int32) → (Nat → Nat → Int64) → Prop := fun v_ A1 J1 => (v_ = some (.int (zI mq)) ∧ A = A1 ∧ J = J1)
set_option maxHeartbeats 4000000 in
set_option maxRecDepth 100000 in
theorem cX8_syncWordsAtC (l : Launch) (D : va_G) (cy : Nat → ClassId) (base : Nat) (ad : Nat → Nat) (n : Nat) (A : Nat → Nat → Int32) (J : Nat → Nat → Int64) (oq : Nat) (mq : Int) (hoq : oq < 64) (hmq : A 8 oq = zI mq) : gMet l yX8_syncWordsAt wsX8_syncWordsAt ({ frames := 0, cells := 0, slots := 0, locals := 0 } : Room) D cy base ad n A J [.ref (ad 7), .int (nI oq)] (PX8_syncWordsAt ad A J oq mq) := by
  refine g_ofW (cc := cX8_syncWordsAt) (maxL := 2) (ret := (some .int)) (by decide) rfl (Nat.le_of_ble_eq_true rfl) ?_
  intro pM eM sM mM aM bM methM cM H locs ls hx hb hr hts hown hlocks hml hE hG hl
  have hl : lv_has ls 2 [(0, .ref (ad 7)), (1, .int (nI oq))] := hl
  have hinX8 : ∀ w ∈ u_ws RX8 TX8 7, w ∈ wsX8_syncWordsAt := by decide +kernel
  refine lv_iload_n hx hb dX8_syncWordsAt_0 rfl (lv_at hl 1 rfl) ?_
  refine lv_if_lt (tgt := 22) hx hb dX8_syncWordsAt_1 (by decide) (fun c1 => ?_) (fun c1 => ?_)
  · skip
    have c1 : (nI oq) < nI 0 := c1
    have c1 : oq < 0 := (nI_ltI (by omega) (by omega)).mp c1
    exfalso; omega
  · skip
    have c1 : ¬ ((nI oq) < nI 0) := c1
    have c1 : ¬ (oq < 0) := fun z9 => c1 ((nI_ltI (by omega) (by omega)).mpr z9)
    refine lv_iload_n hx hb dX8_syncWordsAt_4 rfl (lv_at hl 1 rfl) ?_
    refine lv_aload_n hx hb dX8_syncWordsAt_5 rfl (lv_at hl 0 rfl) ?_
    refine g_get (C := RX8) (T := TX8) (NN := 7) (ci := 8) hx hb hts hinX8 hown hE hG (k := 7) (by omega) rfl rfl 6 (by decide) (hts (.fieldLink RX8 15 "Commutator$Synchroniser" "syncWords" "[I") (List.mem_of_getElem? (i := 1) rfl)) rfl (v := .ref (ad 8)) rfl dX8_syncWordsAt_6 ?_
    refine g_alen hx hb hE hG (k := 8) (t0 := 0) (v := nI 64) (by omega) rfl rfl rfl dX8_syncWordsAt_9 ?_
    refine lv_icmp_ge (tgt := 22) hx hb dX8_syncWordsAt_10 (by decide) (fun c10 => ?_) (fun c10 => ?_)
    · skip
      have c10 : 64 ≤ oq := (nI_leI (by omega) (by omega)).mp c10
      exfalso; omega
    · skip
      have c10 : ¬ (64 ≤ oq) := fun z9 => c10 ((nI_leI (by omega) (by omega)).mpr z9)
      refine lv_aload_n hx hb dX8_syncWordsAt_13 rfl (lv_at hl 0 rfl) ?_
      refine g_get (C := RX8) (T := TX8) (NN := 7) (ci := 8) hx hb hts hinX8 hown hE hG (k := 7) (by omega) rfl rfl 6 (by decide) (hts (.fieldLink RX8 15 "Commutator$Synchroniser" "syncWords" "[I") (List.mem_of_getElem? (i := 1) rfl)) rfl (v := .ref (ad 8)) rfl dX8_syncWordsAt_14 ?_
      refine lv_iload_n hx hb dX8_syncWordsAt_17 rfl (lv_at hl 1 rfl) ?_
      refine g_iald hx hb hE hG (k := 8) (by omega) rfl oq (rfl) (by omega) (by omega) dX8_syncWordsAt_18 ?_
      refine g_top (y := zI mq) (hmq) ?_
      refine lv_goto (tgt := 23) hx hb dX8_syncWordsAt_19 (by decide) ?_
      exact g_iret hx hb hr hlocks hG ⟨rfl, rfl, rfl⟩ dX8_syncWordsAt_23
