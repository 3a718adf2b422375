set_option maxHeartbeats 4000000 in
set_option maxRecDepth 100000 in
theorem cX6_initC (l : Launch) (D : va_G) (cy : Nat → ClassId) (base : Nat) (ad : Nat → Nat) (N : Nat) (w : Nat → va_E) (a : Nat)  : gMetW l yX6_init wsX6_init ({ frames := 1, cells := 0, slots := 0, locals := 12 } : Room) D cy base ad N w [.ref a] (fun v_ ad1 N1 w1 => v_ = none ∧ ad1 = ad ∧ N1 = N ∧ w1 = w) 0 0 := by
  refine gW_ofW (cc := cX6_init) (maxL := 1) (ret := none) (by decide) rfl (Nat.le_of_ble_eq_true rfl) ?_
  intro pM eM sM mM aM bM methM cM H locs ls hx hb hr hts hown hlocks hml hnm hE hG hl
  have hl : lv_has ls 1 [(0, .ref a)] := hl
  refine lv_aload_n hx hb dX6_init_0 rfl (lv_at hl 0 rfl) ?_
  refine W.objInit hx hb hown (hts (.methodLink RX6 1 objectInit) (List.mem_of_getElem? (i := 1) rfl)) (hts (.instanceMethod objectInit) (List.mem_of_getElem? (i := 2) rfl)) (hts (.code objectInit ⟨#[0xb1]⟩ 1 none) (List.mem_of_getElem? (i := 3) rfl)) rfl (hl.1.trans hml.symm) rfl dX6_init_1 (Nat.le_of_ble_eq_true rfl) (Nat.le_of_ble_eq_true rfl) ?_
  exact gR_vret hx hb hr hlocks hG (Nat.le_refl _) (Nat.le_refl _) ⟨rfl, rfl, rfl, rfl⟩ dX6_init_4
set_option maxHeartbeats 4000000 in
set_option maxRecDepth 100000 in
theorem cX7_initC (l : Launch) (D : va_G) (cy : Nat → ClassId) (base : Nat) (ad : Nat → Nat) (N : Nat) (w : Nat → va_E) (a : Nat)  : gMetW l yX7_init wsX7_init ({ frames := 1, cells := 0, slots := 0, locals := 12 } : Room) D cy base ad N w [.ref a] (fun v_ ad1 N1 w1 => v_ = none ∧ ad1 = ad ∧ N1 = N ∧ w1 = w) 0 0 := by
  refine gW_ofW (cc := cX7_init) (maxL := 1) (ret := none) (by decide) rfl (Nat.le_of_ble_eq_true rfl) ?_
  intro pM eM sM mM aM bM methM cM H locs ls hx hb hr hts hown hlocks hml hnm hE hG hl
  have hl : lv_has ls 1 [(0, .ref a)] := hl
  refine lv_aload_n hx hb dX7_init_0 rfl (lv_at hl 0 rfl) ?_
  refine W.objInit hx hb hown (hts (.methodLink RX7 3 objectInit) (List.mem_of_getElem? (i := 1) rfl)) (hts (.instanceMethod objectInit) (List.mem_of_getElem? (i := 2) rfl)) (hts (.code objectInit ⟨#[0xb1]⟩ 1 none) (List.mem_of_getElem? (i := 3) rfl)) rfl (hl.1.trans hml.symm) rfl dX7_init_1 (Nat.le_of_ble_eq_true rfl) (Nat.le_of_ble_eq_true rfl) ?_
  exact gR_vret hx hb hr hlocks hG (Nat.le_refl _) (Nat.le_refl _) ⟨rfl, rfl, rfl, rfl⟩ dX7_init_4
set_option maxHeartbeats 4000000 in
set_option maxRecDepth 100000 in
theorem cX0_initC (l : Launch) (D : va_G) (cy : Nat → ClassId) (base : Nat) (ad : Nat → Nat) (N : Nat) (w : Nat → va_E) (a : Nat)  : gMetW l yX0_init wsX0_init ({ frames := 1, cells := 0, slots := 0, locals := 12 } : Room) D cy base ad N w [.ref a] (fun v_ ad1 N1 w1 => v_ = none ∧ ad1 = ad ∧ N1 = N ∧ w1 = w) 0 0 := by
  refine gW_ofW (cc := cX0_init) (maxL := 1) (ret := none) (by decide) rfl (Nat.le_of_ble_eq_true rfl) ?_
  intro pM eM sM mM aM bM methM cM H locs ls hx hb hr hts hown hlocks hml hnm hE hG hl
  have hl : lv_has ls 1 [(0, .ref a)] := hl
  refine lv_aload_n hx hb dX0_init_0 rfl (lv_at hl 0 rfl) ?_
  refine W.objInit hx hb hown (hts (.methodLink RX0 3 objectInit) (List.mem_of_getElem? (i := 1) rfl)) (hts (.instanceMethod objectInit) (List.mem_of_getElem? (i := 2) rfl)) (hts (.code objectInit ⟨#[0xb1]⟩ 1 none) (List.mem_of_getElem? (i := 3) rfl)) rfl (hl.1.trans hml.symm) rfl dX0_init_1 (Nat.le_of_ble_eq_true rfl) (Nat.le_of_ble_eq_true rfl) ?_
  exact gR_vret hx hb hr hlocks hG (Nat.le_refl _) (Nat.le_refl _) ⟨rfl, rfl, rfl, rfl⟩ dX0_init_4
set_option maxHeartbeats 4000000 in
set_option maxRecDepth 100000 in
theorem cX1_initC (l : Launch) (D : va_G) (cy : Nat → ClassId) (base : Nat) (ad : Nat → Nat) (N : Nat) (w : Nat → va_E) (k : Nat) (hk : k < N) (hw : w k = .inr (1, [.int 0, .int 0, .int 0, .int 0, .null])) : gMetW l yX1_init wsX1_init ({ frames := 2, cells := 1, slots := 3, locals := 40 } : Room) D cy base ad N w [.ref (ad k)] (fun v_ ad1 N1 w1 => v_ = none ∧ ∃ q, ad1 = va_up ad N q ∧ N1 = N + 1 ∧ w1 = va_up (va_up w N (.inr (6, [.int 0, .int 0, .int 0]))) k (.inr (1, [.int 0, .int 0, .int 0, .int 0, .ref q]))) 1 3 := by
  refine gW_ofW (cc := cX1_init) (maxL := 1) (ret := none) (by decide) rfl (Nat.le_of_ble_eq_true rfl) ?_
  intro pM eM sM mM aM bM methM cM H locs ls hx hb hr hts hown hlocks hml hnm hE hG hl
  have hinX1 : ∀ w ∈ u_ws RX1 TX1 5, w ∈ wsX1_init := by decide +kernel
  have hinX6 : ∀ w ∈ u_ws RX6 TX6 3, w ∈ wsX1_init := by decide +kernel
  have hl : lv_has ls 1 [(0, .ref (ad k))] := hl
  refine lv_aload_n hx hb dX1_init_0 rfl (lv_at hl 0 rfl) ?_
  refine W.objInit hx hb hown (hts (.methodLink RX1 1 objectInit) (List.mem_of_getElem? (i := 1) rfl)) (hts (.instanceMethod objectInit) (List.mem_of_getElem? (i := 2) rfl)) (hts (.code objectInit ⟨#[0xb1]⟩ 1 none) (List.mem_of_getElem? (i := 3) rfl)) rfl (hl.1.trans hml.symm) rfl dX1_init_1 (Nat.le_of_ble_eq_true rfl) (Nat.le_of_ble_eq_true rfl) ?_
  refine lv_aload_n hx hb dX1_init_4 rfl (lv_at hl 0 rfl) ?_
  refine g_new (own := RX1) (C := RX6) (T := TX6) (NN := 3) (ci := 6) hx hb hts hinX6 tyX6 tyX6_ok hown (hts (.classLink RX1 7 RX6) (List.mem_of_getElem? (i := 4) rfl)) (hts (.instantiable RX6 3) (List.mem_of_getElem? (i := 5) rfl)) (hts (.initialized RX6) (List.mem_of_getElem? (i := 6) rfl)) hE hG rfl (fs := [.int 0, .int 0, .int 0]) (fun j9 hj9 => by have h9 : j9 = 0 ∨ j9 = 1 ∨ j9 = 2 := (by omega); rcases h9 with rfl | rfl | rfl <;> rfl) (Nat.le_of_ble_eq_true rfl) (Nat.le_of_ble_eq_true rfl) dX1_init_5 (fun q H locs hG => ?_)
  refine lv_dup hx hb dX1_init_8 rfl ?_
  refine gR_callIN (As := []) (rest := [.ref q, .ref (ad k)]) ⟨hx, hb, hml, hown, hts⟩ hG (cX6_initC l D cy base (va_up ad N q) (N + 1) (va_up w N (.inr (6, [.int 0, .int 0, .int 0]))) q) (g_pre hE hG _) ⟨va_cnB (host := "Commutator") 0 hts gX1_init_X6_init_n9 rfl rfl rfl (hE.2.1 _ (List.mem_of_getElem? (i := 17) rfl)) (hts (.initialized RX6) (List.mem_of_getElem? (i := 6) rfl)) (by decide +kernel) ⟨Nat.le_of_ble_eq_true rfl, Nat.le_of_ble_eq_true rfl⟩, rfl, (hts (.instanceMethod yX6_init) (List.mem_of_getElem? (i := 8) rfl))⟩ rfl hl.1 rfl (Nat.le_of_ble_eq_true rfl) dX1_init_9 ⟨Nat.le_of_ble_eq_true rfl, Nat.le_of_ble_eq_true rfl⟩ (fun v_ ad1 N1 w1 H locs hp hG => ?_)
  obtain ⟨rfl, rfl, rfl, rfl⟩ := hp
  refine gR_putF (C := RX1) (T := TX1) (NN := 5) (ci := 1) hx hb hts hinX1 tyX1 tyX1_ok nmX1 hown hE hG (k := k) (va_up_ne _ _ (by omega)) (by omega) ((va_up_ne _ _ (by omega)).trans hw) rfl 4 (by decide) (hts (.fieldLink RX1 10 "Commutator$Derived" "result" "LCommutator$Reading;") (List.mem_of_getElem? (i := 7) rfl)) rfl rfl hnm rfl (ty := .object "Commutator$Reading") (v := .ref q) (by decide +kernel) rfl rfl (Nat.le_of_ble_eq_true rfl) dX1_init_12 (fun H locs hG => ?_)
  exact gR_vret hx hb hr hlocks hG (Nat.le_of_ble_eq_true rfl) (Nat.le_of_ble_eq_true rfl) ⟨rfl, q, rfl, rfl, rfl⟩ dX1_init_15
set_option maxHeartbeats 4000000 in
set_option maxRecDepth 100000 in
theorem cX3_initC (l : Launch) (D : va_G) (cy : Nat → ClassId) (base : Nat) (ad : Nat → Nat) (w : Nat → va_E) (hw : w 4 = .inr (3, [.null, .int 0, .int 0])) : gMetW l yX3_init wsX3_init ({ frames := 1, cells := 1, slots := 8000, locals := 20 } : Room) D cy base ad 5 w [.ref (ad 4)] (fun v_ ad1 N1 w1 => v_ = none ∧ ∃ q, ad1 = va_up ad 5 q ∧ N1 = 6 ∧ w1 = va_up (va_up w 5 (.inl (cy 0, 8000, .inl (fun _ => 0)))) 4 (.inr (3, [.ref q, .int 0, .int 0]))) 1 8000 := by
  refine gW_ofW (cc := cX3_init) (maxL := 1) (ret := none) (by decide) rfl (Nat.le_of_ble_eq_true rfl) ?_
  intro pM eM sM mM aM bM methM cM H locs ls hx hb hr hts hown hlocks hml hnm hE hG hl
  have hinX3 : ∀ w ∈ u_ws RX3 TX3 3, w ∈ wsX3_init := by decide +kernel
  have hl : lv_has ls 1 [(0, .ref (ad 4))] := hl
  refine lv_aload_n hx hb dX3_init_0 rfl (lv_at hl 0 rfl) ?_
  refine W.objInit hx hb hown (hts (.methodLink RX3 3 objectInit) (List.mem_of_getElem? (i := 1) rfl)) (hts (.instanceMethod objectInit) (List.mem_of_getElem? (i := 2) rfl)) (hts (.code objectInit ⟨#[0xb1]⟩ 1 none) (List.mem_of_getElem? (i := 3) rfl)) rfl (hl.1.trans hml.symm) rfl dX3_init_1 (Nat.le_of_ble_eq_true rfl) (Nat.le_of_ble_eq_true rfl) ?_
  refine lv_aload_n hx hb dX3_init_4 rfl (lv_at hl 0 rfl) ?_
  refine lv_sipush (v := nI 8000) hx hb dX3_init_5 (by decide) ?_
  refine g_newa (atype := .int) (ty := .int) hx hb (hts (.arrayClass .int) (List.mem_of_getElem? (i := 4) rfl)) rfl hE hG (t0 := 0) rfl (N' := 8000) (a0 := (8000, .inl (fun _ => 0))) (fun _ => rfl) (by decide) (nI_clamp (by decide)) (Nat.le_of_ble_eq_true rfl) (Nat.le_of_ble_eq_true rfl) (Nat.le_of_ble_eq_true rfl) dX3_init_8 (fun q H locs hG => ?_)
  refine gR_putF (C := RX3) (T := TX3) (NN := 3) (ci := 3) hx hb hts hinX3 tyX3 tyX3_ok nmX3 hown hE hG (k := 4) rfl (by decide) hw rfl 0 (by decide) (hts (.fieldLink RX3 9 "Commutator$Line" "bits" "[I") (List.mem_of_getElem? (i := 5) rfl)) rfl rfl hnm rfl (ty := .array .int) (v := .ref q) (by decide +kernel) rfl rfl (Nat.le_of_ble_eq_true rfl) dX3_init_10 (fun H locs hG => ?_)
  exact gR_vret hx hb hr hlocks hG (Nat.le_of_ble_eq_true rfl) (Nat.le_of_ble_eq_true rfl) ⟨rfl, q, rfl, rfl, rfl⟩ dX3_init_13
set_option maxHeartbeats 4000000 in
set_option maxRecDepth 100000 in
theorem cX8_initC (l : Launch) (D : va_G) (cy : Nat → ClassId) (base : Nat) (ad : Nat → Nat) (w : Nat → va_E) (hw : w 7 = .inr (8, [.int 0, .int 0, .long 0, .int 0, .int 0, .int 0, .null])) : gMetW l yX8_init wsX8_init ({ frames := 1, cells := 1, slots := 64, locals := 20 } : Room) D cy base ad 8 w [.ref (ad 7)] (fun v_ ad1 N1 w1 => v_ = none ∧ ∃ q, ad1 = va_up ad 8 q ∧ N1 = 9 ∧ w1 = va_up (va_up (va_up w 7 (.inr (8, [.int 0, .int 0, .long 0, .int 0, .int 0, .int 0, .null]))) 8 (.inl (cy 0, 64, .inl (fun _ => 0)))) 7 (.inr (8, [.int 0, .int 0, .long 0, .int 0, .int 0, .int 0, .ref q]))) 1 64 := by
  refine gW_ofW (cc := cX8_init) (maxL := 1) (ret := none) (by decide) rfl (Nat.le_of_ble_eq_true rfl) ?_
  intro pM eM sM mM aM bM methM cM H locs ls hx hb hr hts hown hlocks hml hnm hE hG hl
  have hinX8 : ∀ w ∈ u_ws RX8 TX8 7, w ∈ wsX8_init := by decide +kernel
  have hl : lv_has ls 1 [(0, .ref (ad 7))] := hl
  refine lv_aload_n hx hb dX8_init_0 rfl (lv_at hl 0 rfl) ?_
  refine W.objInit hx hb hown (hts (.methodLink RX8 3 objectInit) (List.mem_of_getElem? (i := 1) rfl)) (hts (.instanceMethod objectInit) (List.mem_of_getElem? (i := 2) rfl)) (hts (.code objectInit ⟨#[0xb1]⟩ 1 none) (List.mem_of_getElem? (i := 3) rfl)) rfl (hl.1.trans hml.symm) rfl dX8_init_1 (Nat.le_of_ble_eq_true rfl) (Nat.le_of_ble_eq_true rfl) ?_
  refine lv_aload_n hx hb dX8_init_4 rfl (lv_at hl 0 rfl) ?_
  refine lv_iconst (v := nI 0) hx hb dX8_init_5 (by decide) ?_
  refine gR_put (C := RX8) (T := TX8) (NN := 7) (ci := 8) hx hb hts hinX8 tyX8 tyX8_ok nmX8 hown hE hG (k := 7) rfl (by decide) hw rfl 0 (by decide) (hts (.fieldLink RX8 9 "Commutator$Synchroniser" "mode" "I") (List.mem_of_getElem? (i := 4) rfl)) rfl rfl (ty := .int) (v := .int (nI 0)) (by decide +kernel) rfl rfl (Nat.le_of_ble_eq_true rfl) dX8_init_6 (fun H locs hG => ?_)
  refine lv_aload_n hx hb dX8_init_9 rfl (lv_at hl 0 rfl) ?_
  refine lv_bipush (v := nI 64) hx hb dX8_init_10 (by decide) ?_
  refine g_newa (atype := .int) (ty := .int) hx hb (hts (.arrayClass .int) (List.mem_of_getElem? (i := 5) rfl)) rfl hE hG (t0 := 0) rfl (N' := 64) (a0 := (64, .inl (fun _ => 0))) (fun _ => rfl) (by decide) (nI_clamp (by decide)) (Nat.le_of_ble_eq_true rfl) (Nat.le_of_ble_eq_true rfl) (Nat.le_of_ble_eq_true rfl) dX8_init_12 (fun q H locs hG => ?_)
  refine gR_putF (C := RX8) (T := TX8) (NN := 7) (ci := 8) hx hb hts hinX8 tyX8 tyX8_ok nmX8 hown hE hG (k := 7) rfl (by decide) (fs := [.int 0, .int 0, .long 0, .int 0, .int 0, .int 0, .null]) rfl rfl 6 (by decide) (hts (.fieldLink RX8 15 "Commutator$Synchroniser" "syncWords" "[I") (List.mem_of_getElem? (i := 6) rfl)) rfl rfl hnm rfl (ty := .array .int) (v := .ref q) (by decide +kernel) rfl rfl (Nat.le_of_ble_eq_true rfl) dX8_init_14 (fun H locs hG => ?_)
  exact gR_vret hx hb hr hlocks hG (Nat.le_of_ble_eq_true rfl) (Nat.le_of_ble_eq_true rfl) ⟨rfl, q, rfl, rfl, rfl⟩ dX8_init_17
set_option maxHeartbeats 4000000 in
set_option maxRecDepth 100000 in
theorem cX5_initC (l : Launch) (D : va_G) (cy : Nat → ClassId) (base : Nat) (ad : Nat → Nat) (w : Nat → va_E) (hw : w 1 = .inr (5, [.null, .int 0, .null])) : gMetA l yX5_init wsX5_init ({ frames := 1, cells := 2, slots := 16, locals := 20 } : Room) D cy base ad 2 w [.ref (ad 1)] (fun v_ ad1 N1 w1 => v_ = none ∧ ∃ q q2, ad1 = va_up (va_up ad 2 q) 3 q2 ∧ N1 = 4 ∧ w1 = va_up (va_up (va_up (va_up w 2 (.inl (cy 4, 12, .inr (.inr (.inr (.inr (fun _ => none))))))) 1 (.inr (5, [.ref q, .int 0, .null]))) 3 (.inl (cy 1, 4, .inr (.inl (fun _ => 0))))) 1 (.inr (5, [.ref q, .int 0, .ref q2]))) 2 16 := by
  refine gA_ofW (cc := cX5_init) (maxL := 1) (ret := none) (by decide) rfl (Nat.le_of_ble_eq_true rfl) ?_
  intro pM eM sM mM aM bM methM cM H locs ls hx hb hr hts hown hlocks hml hnm hEA hG hl
  have hE := hEA.1
  have hinX5 : ∀ w ∈ u_ws RX5 TX5 3, w ∈ wsX5_init := by decide +kernel
  have hl : lv_has ls 1 [(0, .ref (ad 1))] := hl
  refine lv_aload_n hx hb dX5_init_0 rfl (lv_at hl 0 rfl) ?_
  refine W.objInit hx hb hown (hts (.methodLink RX5 3 objectInit) (List.mem_of_getElem? (i := 1) rfl)) (hts (.instanceMethod objectInit) (List.mem_of_getElem? (i := 2) rfl)) (hts (.code objectInit ⟨#[0xb1]⟩ 1 none) (List.mem_of_getElem? (i := 3) rfl)) rfl (hl.1.trans hml.symm) rfl dX5_init_1 (Nat.le_of_ble_eq_true rfl) (Nat.le_of_ble_eq_true rfl) ?_
  refine lv_aload_n hx hb dX5_init_4 rfl (lv_at hl 0 rfl) ?_
  refine lv_bipush (v := nI 12) hx hb dX5_init_5 (by decide) ?_
  refine g_newq (own := RX5) (C := RX4) hx hb hown (hts (.classLink RX5 9 RX4) (List.mem_of_getElem? (i := 4) rfl)) hEA.2.1 hE hG (t0 := 4) rfl (N' := 12) (by decide) (nI_clamp (by decide)) (Nat.le_of_ble_eq_true rfl) (Nat.le_of_ble_eq_true rfl) (Nat.le_of_ble_eq_true rfl) dX5_init_7 (fun q H locs hG => ?_)
  refine gR_putF (C := RX5) (T := TX5) (NN := 3) (ci := 5) hx hb hts hinX5 tyX5 tyX5_ok nmX5 hown hE hG (k := 1) rfl (by decide) hw rfl 0 (by decide) (hts (.fieldLink RX5 11 "Commutator$PointTable" "rows" "[LCommutator$Point;") (List.mem_of_getElem? (i := 5) rfl)) rfl rfl hnm rfl (ty := .array (.object "Commutator$Point")) (v := .ref q) (by decide +kernel) rfl rfl (Nat.le_of_ble_eq_true rfl) dX5_init_10 (fun H locs hG => ?_)
  refine lv_aload_n hx hb dX5_init_13 rfl (lv_at hl 0 rfl) ?_
  refine lv_iconst (v := nI 4) hx hb dX5_init_14 (by decide) ?_
  refine g_newa (atype := .long) (ty := .long) hx hb (hts (.arrayClass .long) (List.mem_of_getElem? (i := 6) rfl)) rfl hE hG (t0 := 1) rfl (N' := 4) (a0 := (4, .inr (.inl (fun _ => 0)))) (fun _ => rfl) (by decide) (nI_clamp (by decide)) (Nat.le_of_ble_eq_true rfl) (Nat.le_of_ble_eq_true rfl) (Nat.le_of_ble_eq_true rfl) dX5_init_15 (fun q2 H locs hG => ?_)
  refine gR_putF (C := RX5) (T := TX5) (NN := 3) (ci := 5) hx hb hts hinX5 tyX5 tyX5_ok nmX5 hown hE hG (k := 1) rfl (by decide) (fs := [.ref q, .int 0, .null]) rfl rfl 2 (by decide) (hts (.fieldLink RX5 17 "Commutator$PointTable" "usedBits" "[J") (List.mem_of_getElem? (i := 7) rfl)) rfl rfl hnm rfl (ty := .array .long) (v := .ref q2) (by decide +kernel) rfl rfl (Nat.le_of_ble_eq_true rfl) dX5_init_17 (fun H locs hG => ?_)
  exact gR_vret hx hb hr hlocks hG (Nat.le_of_ble_eq_true rfl) (Nat.le_of_ble_eq_true rfl) ⟨rfl, q, q2, rfl, rfl, rfl⟩ dX5_init_20
set_option maxHeartbeats 4000000 in
set_option maxRecDepth 100000 in
theorem cX4_initC (l : Launch) (D : va_G) (cy : Nat → ClassId) (base : Nat) (ad : Nat → Nat) (N : Nat) (w : Nat → va_E) (k : Nat) (x1 x2 x3 : Int32) (x4 : Nat) (x5 x6 : Int32) (hk : k < N) (hw : w k = .inr (4, [.int 0, .int 0, .int 0, .int 0, .int 0, .int 0, .int 0, .null, .int 0, .int 0])) (hx4 : x4 ≤ 1) : gMetW l yX4_init wsX4_init ({ frames := 2, cells := 1, slots := 3, locals := 45 } : Room) D cy base ad N w [.ref (ad k), .int x1, .int x2, .int x3, .int (nI x4), .int x5, .int x6] (fun v_ ad1 N1 w1 => v_ = none ∧ ∃ q, ad1 = va_up ad N q ∧ N1 = N + 1 ∧ (∀ i, i < N → i ≠ k → w1 i = w i) ∧ w1 N = .inr (6, [.int 0, .int 0, .int 0]) ∧ w1 k = .inr (4, [.int x1, .int x2, .int x3, .int (nI x4), .int x5, .int x6, .int 0, .ref q, .int 0, .int 0])) 1 3 := by
  refine gW_ofW (cc := cX4_init) (maxL := 7) (ret := none) (by decide) rfl (Nat.le_of_ble_eq_true rfl) ?_
  intro pM eM sM mM aM bM methM cM H locs ls hx hb hr hts hown hlocks hml hnm hE hG hl
  have hinX4 : ∀ w ∈ u_ws RX4 TX4 10, w ∈ wsX4_init := by decide +kernel
  have hinX6 : ∀ w ∈ u_ws RX6 TX6 3, w ∈ wsX4_init := by decide +kernel
  have hl : lv_has ls 7 [(0, .ref (ad k)), (1, .int x1), (2, .int x2), (3, .int x3), (4, .int (nI x4)), (5, .int x5), (6, .int x6)] := hl
  refine lv_aload_n hx hb dX4_init_0 rfl (lv_at hl 0 rfl) ?_
  refine W.objInit hx hb hown (hts (.methodLink RX4 3 objectInit) (List.mem_of_getElem? (i := 1) rfl)) (hts (.instanceMethod objectInit) (List.mem_of_getElem? (i := 2) rfl)) (hts (.code objectInit ⟨#[0xb1]⟩ 1 none) (List.mem_of_getElem? (i := 3) rfl)) rfl (hl.1.trans hml.symm) rfl dX4_init_1 (Nat.le_of_ble_eq_true rfl) (Nat.le_of_ble_eq_true rfl) ?_
  refine lv_aload_n hx hb dX4_init_4 rfl (lv_at hl 0 rfl) ?_
  refine lv_iload_n hx hb dX4_init_5 rfl (lv_at hl 1 rfl) ?_
  refine gR_putF (C := RX4) (T := TX4) (NN := 10) (ci := 4) hx hb hts hinX4 tyX4 tyX4_ok nmX4 hown hE hG (k := k) rfl hk hw rfl 0 (by decide) (hts (.fieldLink RX4 9 "Commutator$Point" "width" "I") (List.mem_of_getElem? (i := 4) rfl)) rfl rfl hnm rfl (ty := .int) (v := .int x1) (by decide +kernel) rfl rfl (Nat.le_of_ble_eq_true rfl) dX4_init_6 (fun H locs hG => ?_)
  refine lv_aload_n hx hb dX4_init_9 rfl (lv_at hl 0 rfl) ?_
  refine lv_iload_n hx hb dX4_init_10 rfl (lv_at hl 2 rfl) ?_
  refine gR_putF (C := RX4) (T := TX4) (NN := 10) (ci := 4) hx hb hts hinX4 tyX4 tyX4_ok nmX4 hown hE hG (k := k) rfl hk (fs := [.int x1, .int 0, .int 0, .int 0, .int 0, .int 0, .int 0, .null, .int 0, .int 0]) (va_up_self _ _ _) rfl 1 (by decide) (hts (.fieldLink RX4 15 "Commutator$Point" "convention" "I") (List.mem_of_getElem? (i := 5) rfl)) rfl rfl hnm rfl (ty := .int) (v := .int x2) (by decide +kernel) rfl rfl (Nat.le_of_ble_eq_true rfl) dX4_init_11 (fun H locs hG => ?_)
  refine lv_aload_n hx hb dX4_init_14 rfl (lv_at hl 0 rfl) ?_
  refine lv_iload_n hx hb dX4_init_15 rfl (lv_at hl 3 rfl) ?_
  refine gR_putF (C := RX4) (T := TX4) (NN := 10) (ci := 4) hx hb hts hinX4 tyX4 tyX4_ok nmX4 hown hE hG (k := k) rfl hk (fs := [.int x1, .int x2, .int 0, .int 0, .int 0, .int 0, .int 0, .null, .int 0, .int 0]) (va_up_self _ _ _) rfl 2 (by decide) (hts (.fieldLink RX4 18 "Commutator$Point" "period" "I") (List.mem_of_getElem? (i := 6) rfl)) rfl rfl hnm rfl (ty := .int) (v := .int x3) (by decide +kernel) rfl rfl (Nat.le_of_ble_eq_true rfl) dX4_init_16 (fun H locs hG => ?_)
  refine lv_aload_n hx hb dX4_init_19 rfl (lv_at hl 0 rfl) ?_
  refine lv_iload hx hb dX4_init_20 (lv_at hl 4 rfl) ?_
  have hn4 : narrow .boolean (.int (nI x4)) = .int (nI x4) := by rcases Nat.le_one_iff_eq_zero_or_eq_one.mp hx4 with rfl | rfl <;> rfl
  have hf4 : fits .boolean (.int (nI x4)) = true := by rcases Nat.le_one_iff_eq_zero_or_eq_one.mp hx4 with rfl | rfl <;> decide
  refine gR_putF (C := RX4) (T := TX4) (NN := 10) (ci := 4) hx hb hts hinX4 tyX4 tyX4_ok nmX4 hown hE hG (k := k) rfl hk (fs := [.int x1, .int x2, .int x3, .int 0, .int 0, .int 0, .int 0, .null, .int 0, .int 0]) (va_up_self _ _ _) rfl 3 (by decide) (hts (.fieldLink RX4 21 "Commutator$Point" "twice" "Z") (List.mem_of_getElem? (i := 7) rfl)) rfl rfl hnm rfl (ty := .boolean) (v := .int (nI x4)) (by decide +kernel) hn4 hf4 (Nat.le_of_ble_eq_true rfl) dX4_init_22 (fun H locs hG => ?_)
  refine lv_aload_n hx hb dX4_init_25 rfl (lv_at hl 0 rfl) ?_
  refine lv_iload hx hb dX4_init_26 (lv_at hl 5 rfl) ?_
  refine gR_putF (C := RX4) (T := TX4) (NN := 10) (ci := 4) hx hb hts hinX4 tyX4 tyX4_ok nmX4 hown hE hG (k := k) rfl hk (fs := [.int x1, .int x2, .int x3, .int (nI x4), .int 0, .int 0, .int 0, .null, .int 0, .int 0]) (va_up_self _ _ _) rfl 4 (by decide) (hts (.fieldLink RX4 25 "Commutator$Point" "phase" "I") (List.mem_of_getElem? (i := 8) rfl)) rfl rfl hnm rfl (ty := .int) (v := .int x5) (by decide +kernel) rfl rfl (Nat.le_of_ble_eq_true rfl) dX4_init_28 (fun H locs hG => ?_)
  refine lv_aload_n hx hb dX4_init_31 rfl (lv_at hl 0 rfl) ?_
  refine lv_iload hx hb dX4_init_32 (lv_at hl 6 rfl) ?_
  refine gR_putF (C := RX4) (T := TX4) (NN := 10) (ci := 4) hx hb hts hinX4 tyX4 tyX4_ok nmX4 hown hE hG (k := k) rfl hk (fs := [.int x1, .int x2, .int x3, .int (nI x4), .int x5, .int 0, .int 0, .null, .int 0, .int 0]) (va_up_self _ _ _) rfl 5 (by decide) (hts (.fieldLink RX4 28 "Commutator$Point" "offset" "I") (List.mem_of_getElem? (i := 9) rfl)) rfl rfl hnm rfl (ty := .int) (v := .int x6) (by decide +kernel) rfl rfl (Nat.le_of_ble_eq_true rfl) dX4_init_34 (fun H locs hG => ?_)
  refine lv_aload_n hx hb dX4_init_37 rfl (lv_at hl 0 rfl) ?_
  refine g_new (own := RX4) (C := RX6) (T := TX6) (NN := 3) (ci := 6) hx hb hts hinX6 tyX6 tyX6_ok hown (hts (.classLink RX4 31 RX6) (List.mem_of_getElem? (i := 10) rfl)) (hts (.instantiable RX6 3) (List.mem_of_getElem? (i := 11) rfl)) (hts (.initialized RX6) (List.mem_of_getElem? (i := 12) rfl)) hE hG rfl (fs := [.int 0, .int 0, .int 0]) (fun j9 hj9 => by have h9 : j9 = 0 ∨ j9 = 1 ∨ j9 = 2 := (by omega); rcases h9 with rfl | rfl | rfl <;> rfl) (Nat.le_of_ble_eq_true rfl) (Nat.le_of_ble_eq_true rfl) dX4_init_38 (fun q H locs hG => ?_)
  refine lv_dup hx hb dX4_init_41 rfl ?_
  refine gR_callIN (As := []) (rest := [.ref q, .ref (ad k)]) ⟨hx, hb, hml, hown, hts⟩ hG (cX6_initC l D cy base (va_up ad N q) (N + 1) _ q) (g_pre hE hG _) ⟨va_cnB (host := "Commutator") 0 hts gX4_init_X6_init_n33 rfl rfl rfl (hE.2.1 _ (List.mem_of_getElem? (i := 29) rfl)) (hts (.initialized RX6) (List.mem_of_getElem? (i := 12) rfl)) (by decide +kernel) ⟨Nat.le_of_ble_eq_true rfl, Nat.le_of_ble_eq_true rfl⟩, rfl, (hts (.instanceMethod yX6_init) (List.mem_of_getElem? (i := 14) rfl))⟩ rfl hl.1 rfl (Nat.le_of_ble_eq_true rfl) dX4_init_42 ⟨Nat.le_of_ble_eq_true rfl, Nat.le_of_ble_eq_true rfl⟩ (fun v_ ad1 N1 w1 H locs hp hG => ?_)
  obtain ⟨rfl, rfl, rfl, rfl⟩ := hp
  refine gR_putF (C := RX4) (T := TX4) (NN := 10) (ci := 4) hx hb hts hinX4 tyX4 tyX4_ok nmX4 hown hE hG (k := k) (va_up_ne _ _ (by omega)) (by omega) (fs := [.int x1, .int x2, .int x3, .int (nI x4), .int x5, .int x6, .int 0, .null, .int 0, .int 0]) ((va_up_ne _ _ (by omega)).trans (va_up_self _ _ _)) rfl 7 (by decide) (hts (.fieldLink RX4 34 "Commutator$Point" "latest" "LCommutator$Reading;") (List.mem_of_getElem? (i := 13) rfl)) rfl rfl hnm rfl (ty := .object "Commutator$Reading") (v := .ref q) (by decide +kernel) rfl rfl (Nat.le_of_ble_eq_true rfl) dX4_init_45 (fun H locs hG => ?_)
  refine gR_vret hx hb hr hlocks hG (Nat.le_of_ble_eq_true rfl) (Nat.le_of_ble_eq_true rfl) ⟨rfl, q, rfl, rfl, fun i h1 h2 => ?_, ?_, va_up_self _ _ _⟩ dX4_init_48
  · simp only [va_up, if_neg h2, if_neg (show ¬ i = N from by omega)]
  · simp only [va_up, if_neg (show ¬ N = k from by omega), if_true]
