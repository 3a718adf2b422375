def gX2I (cy : Nat → ClassId) (ad : Nat → Nat) (w : Nat → va_E) (ad1 : Nat → Nat) (w1 : Nat → va_E) (i : Nat) : Prop := (∀ k, k < 11 → ad1 k = ad k) ∧ (∀ k, k < 10 → w1 k = w k) ∧ w1 10 = .inr (2, [.ref (ad1 11)]) ∧ w1 11 = .inl (cy 3, 8, .inr (.inr (.inr (.inr (fun j => if j < i then some (ad1 (12 + 2 * j)) else none))))) ∧ ∀ j, j < i → w1 (12 + 2 * j) = .inr (1, [.int 0, .int 0, .int 0, .int 0, .ref (ad1 (12 + 2 * j + 1))]) ∧ w1 (12 + 2 * j + 1) = .inr (6, [.int 0, .int 0, .int 0])
theorem gX2I_0 {cy : Nat → ClassId} {ad : Nat → Nat} {w : Nat → va_E} (q : Nat) : gX2I cy ad w (va_up ad 11 q) (va_up (va_up w 11 (.inl (cy 3, 8, .inr (.inr (.inr (.inr (fun _ => none))))))) 10 (.inr (2, [.ref q]))) 0 := by
  refine ⟨fun k hk => va_up_ne _ _ (by omega), fun k hk => (va_up_ne _ _ (by omega)).trans (va_up_ne _ _ (by omega)), rfl, ?_, fun j hj => absurd hj (Nat.not_lt_zero _)⟩
  rw [va_up_ne _ _ (by decide), va_up_self]
  congr 7
theorem gX2I_s {cy : Nat → ClassId} {ad ad1 : Nat → Nat} {w w1 : Nat → va_E} {i : Nat} (h : gX2I cy ad w ad1 w1 i) (hi : i < 8) (q q2 : Nat) (f : Nat → Option Nat) (hf : f = fun j => if j < i then some (ad1 (12 + 2 * j)) else none) :
    gX2I cy ad w (va_up (va_up ad1 (12 + 2 * i) q) (12 + 2 * i + 1) q2) (va_up (va_up (va_up (va_up w1 (12 + 2 * i) (.inr (1, [.int 0, .int 0, .int 0, .int 0, .null]))) (12 + 2 * i + 1) (.inr (6, [.int 0, .int 0, .int 0]))) (12 + 2 * i) (.inr (1, [.int 0, .int 0, .int 0, .int 0, .ref q2]))) 11 (.inl (cy 3, 8, .inr (.inr (.inr (.inr (va_up f i (some q)))))))) (i + 1) := by
  obtain ⟨h1, h2, h3, h4, h5⟩ := h
  have ha : ∀ k, k < 12 + 2 * i → va_up (va_up ad1 (12 + 2 * i) q) (12 + 2 * i + 1) q2 k = ad1 k := fun k hk => (va_up_ne _ _ (by omega)).trans (va_up_ne _ _ (by omega))
  have hq : va_up (va_up ad1 (12 + 2 * i) q) (12 + 2 * i + 1) q2 (12 + 2 * i) = q := (va_up_ne _ _ (by omega)).trans (va_up_self _ _ _)
  have hq2 : va_up (va_up ad1 (12 + 2 * i) q) (12 + 2 * i + 1) q2 (12 + 2 * i + 1) = q2 := va_up_self _ _ _
  have hw : ∀ k, k < 12 + 2 * i → k ≠ 11 → va_up (va_up (va_up (va_up w1 (12 + 2 * i) (.inr (1, [.int 0, .int 0, .int 0, .int 0, .null]))) (12 + 2 * i + 1) (.inr (6, [.int 0, .int 0, .int 0]))) (12 + 2 * i) (.inr (1, [.int 0, .int 0, .int 0, .int 0, .ref q2]))) 11 (.inl (cy 3, 8, .inr (.inr (.inr (.inr (va_up f i (some q))))))) k = w1 k := fun k hk hk2 => by
    rw [va_up_ne _ _ hk2, va_up_ne _ _ (by omega), va_up_ne _ _ (by omega), va_up_ne _ _ (by omega)]
  refine ⟨fun k hk => (ha k (by omega)).trans (h1 k hk), fun k hk => (hw k (by omega) (by omega)).trans (h2 k hk), ?_, ?_, fun j hj => ?_⟩
  · rw [hw 10 (by omega) (by omega), h3, ha 11 (by omega)]
  · rw [va_up_self]
    have hfe : va_up f i (some q) = fun j => if j < i + 1 then some (va_up (va_up ad1 (12 + 2 * i) q) (12 + 2 * i + 1) q2 (12 + 2 * j)) else none := by
      funext j
      by_cases hj : j = i
      · subst hj
        rw [va_up_self, hq, if_pos (by omega)]
      · rw [va_up_ne _ _ hj, hf]
        by_cases hj2 : j < i
        · simp only [hj2, if_true, if_pos (show j < i + 1 by omega), ha (12 + 2 * j) (by omega)]
        · simp only [hj2, if_false, if_neg (show ¬ j < i + 1 by omega)]
    rw [hfe]
  · by_cases hj2 : j = i
    · subst hj2
      rw [hq2]
      constructor
      · rw [va_up_ne _ _ (by omega), va_up_self]
      · rw [va_up_ne _ _ (by omega), va_up_ne _ _ (by omega), va_up_self]
    · obtain ⟨a, b⟩ := h5 j (by omega)
      rw [hw (12 + 2 * j) (by omega) (by omega), hw (12 + 2 * j + 1) (by omega) (by omega), ha (12 + 2 * j + 1) (by omega)]
      exact ⟨a, b⟩
set_option maxHeartbeats 4000000 in
set_option maxRecDepth 100000 in
theorem cX2_initC (l : Launch) (D : va_G) (cy : Nat → ClassId) (base : Nat) (ad : Nat → Nat) (w : Nat → va_E) (hw : w 10 = .inr (2, [.null])) : gMetA l yX2_init wsX2_init ({ frames := 3, cells := 17, slots := 72, locals := 65 } : Room) D cy base ad 11 w [.ref (ad 10)] (fun v_ ad1 N1 w1 => v_ = none ∧ N1 = 28 ∧ gX2I cy ad w ad1 w1 8) 17 72 := by
  refine gA_ofW (cc := cX2_init) (maxL := 2) (ret := none) (by decide) rfl (Nat.le_of_ble_eq_true rfl) ?_
  intro pM eM sM mM aM bM methM cM H locs ls hx hb hr hts hown hlocks hml hnm hEA hG hl
  have hE := hEA.1
  have hinX1 : ∀ w ∈ u_ws RX1 TX1 5, w ∈ wsX2_init := by decide +kernel
  have hinX2 : ∀ w ∈ u_ws RX2 TX2 1, w ∈ wsX2_init := by decide +kernel
  have hinX6 : ∀ w ∈ u_ws RX6 TX6 3, w ∈ wsX2_init := by decide +kernel
  have hl : lv_has ls 2 [(0, .ref (ad 10))] := hl
  refine lv_aload_n hx hb dX2_init_0 rfl (lv_at hl 0 rfl) ?_
  refine W.objInit hx hb hown (hts (.methodLink RX2 3 objectInit) (List.mem_of_getElem? (i := 1) rfl)) (hts (.instanceMethod objectInit) (List.mem_of_getElem? (i := 2) rfl)) (hts (.code objectInit ⟨#[0xb1]⟩ 1 none) (List.mem_of_getElem? (i := 3) rfl)) rfl (hl.1.trans hml.symm) rfl dX2_init_1 (Nat.le_of_ble_eq_true rfl) (Nat.le_of_ble_eq_true rfl) ?_
  refine lv_aload_n hx hb dX2_init_4 rfl (lv_at hl 0 rfl) ?_
  refine lv_bipush (v := nI 8) hx hb dX2_init_5 (by decide) ?_
  refine g_newq (own := RX2) (C := RX1) hx hb hown (hts (.classLink RX2 9 RX1) (List.mem_of_getElem? (i := 4) rfl)) hEA.2.2 hE hG (t0 := 3) rfl (N' := 8) (by decide) (nI_clamp (by decide)) (Nat.le_of_ble_eq_true rfl) (Nat.le_of_ble_eq_true rfl) (Nat.le_of_ble_eq_true rfl) dX2_init_7 (fun q H locs hG => ?_)
  refine gR_putF (C := RX2) (T := TX2) (NN := 1) (ci := 2) hx hb hts hinX2 tyX2 tyX2_ok nmX2 hown hE hG (k := 10) rfl (by decide) hw rfl 0 (by decide) (hts (.fieldLink RX2 11 "Commutator$DerivedTable" "rows" "[LCommutator$Derived;") (List.mem_of_getElem? (i := 5) rfl)) rfl rfl hnm rfl (ty := .array (.object "Commutator$Derived")) (v := .ref q) (by decide +kernel) rfl rfl (Nat.le_of_ble_eq_true rfl) dX2_init_10 (fun H locs hG => ?_)
  refine lv_iconst (v := nI 0) hx hb dX2_init_13 (by decide) ?_
  refine lv_istore_n (lv' := [(1, .int (nI 0)), (0, .ref (ad 10))]) hx hb dX2_init_14 rfl hl (by decide) rfl (fun ls hl => ?_)
  have LL : ∀ (fuel i : Nat) (ad1 : Nat → Nat) (w1 : Nat → va_E) (cells slots : Nat) (hi : i ≤ 8) (hI : gX2I cy ad w ad1 w1 i) (h1 : cells ≤ 1 + 2 * i) (h2 : slots ≤ 8 + 8 * i) (_ : 8 - i < fuel) (H : Heap) (locs : List Loc) (ls : Array Slot), gH D base sM ad1 (12 + 2 * i) w1 H locs → lv_has ls 2 [(1, .int (nI i)), (0, .ref (ad 10))] → W pM l eM ({ frames := 3, cells := 17, slots := 72, locals := 65 } : Room) sM mM aM bM methM cM H locs cells slots (MQ bM (gPostW D base (fun v_ ad1 N1 w1 => v_ = none ∧ N1 = 28 ∧ gX2I cy ad w ad1 w1 8)) aM sM 17 72 (fun q => base ≤ q)) (F0 mM 15 ls []) := by
    intro fuel
    induction fuel with
    | zero => intro i ad1 w1 cells slots hi hI h1 h2 hms; exact absurd hms (Nat.not_lt_zero _)
    | succ fuel ih =>
      intro i ad1 w1 cells slots hi hI h1 h2 hms H locs ls hG hl
      have hI2 := hI
      obtain ⟨i1, i2, i3, i4, i5⟩ := hI2
      refine lv_iload_n hx hb dX2_init_15 rfl (lv_at hl 0 rfl) ?_
      refine lv_aload_n hx hb dX2_init_16 rfl (lv_at hl 1 rfl) ?_
      refine gR_get (C := RX2) (T := TX2) (NN := 1) (ci := 2) hx hb hts hinX2 hown hE hG (k := 10) (i1 10 (by omega)) (by omega) i3 rfl 0 (by decide) (hts (.fieldLink RX2 11 "Commutator$DerivedTable" "rows" "[LCommutator$Derived;") (List.mem_of_getElem? (i := 5) rfl)) rfl (v := .ref (ad1 11)) rfl dX2_init_17 ?_
      refine gR_alen hx hb hE hG (k := 11) rfl (by omega) i4 (t0 := 3) rfl (v := nI 8) rfl dX2_init_20 ?_
      refine lv_icmp_ge (tgt := 43) hx hb dX2_init_21 (by decide) (fun c21 => ?_) (fun c21 => ?_)
      · have c21 : 8 ≤ i := (nI_leI (by omega) (by omega)).mp c21
        have e8 : i = 8 := by omega
        subst e8
        exact gR_vret hx hb hr hlocks hG (by omega) (by omega) ⟨rfl, rfl, hI⟩ dX2_init_43
      · have c21 : ¬ (8 ≤ i) := fun z9 => c21 ((nI_leI (by omega) (by omega)).mpr z9)
        refine lv_aload_n hx hb dX2_init_24 rfl (lv_at hl 1 rfl) ?_
        refine gR_get (C := RX2) (T := TX2) (NN := 1) (ci := 2) hx hb hts hinX2 hown hE hG (k := 10) (i1 10 (by omega)) (by omega) i3 rfl 0 (by decide) (hts (.fieldLink RX2 11 "Commutator$DerivedTable" "rows" "[LCommutator$Derived;") (List.mem_of_getElem? (i := 5) rfl)) rfl (v := .ref (ad1 11)) rfl dX2_init_25 ?_
        refine lv_iload_n hx hb dX2_init_28 rfl (lv_at hl 0 rfl) ?_
        refine g_new (own := RX2) (C := RX1) (T := TX1) (NN := 5) (ci := 1) hx hb hts hinX1 tyX1 tyX1_ok hown (hts (.classLink RX2 9 RX1) (List.mem_of_getElem? (i := 4) rfl)) (hts (.instantiable RX1 5) (List.mem_of_getElem? (i := 6) rfl)) (hts (.initialized RX1) (List.mem_of_getElem? (i := 7) rfl)) hE hG rfl (fs := [.int 0, .int 0, .int 0, .int 0, .null]) (fun j9 hj9 => by have h9 : j9 = 0 ∨ j9 = 1 ∨ j9 = 2 ∨ j9 = 3 ∨ j9 = 4 := (by omega); rcases h9 with rfl | rfl | rfl | rfl | rfl <;> rfl) (by show cells + 1 ≤ 17; omega) (by show slots + 5 ≤ 72; omega) dX2_init_29 (fun q H locs hG => ?_)
        refine lv_dup hx hb dX2_init_32 rfl ?_
        refine gR_callIN (a := q) (As := []) (rest := [.ref q, .int (nI i), .ref (ad1 11)]) ⟨hx, hb, hml, hown, hts⟩ hG (by have h9 := cX1_initC l D cy base (va_up ad1 (12 + 2 * i) q) (12 + 2 * i + 1) (va_up w1 (12 + 2 * i) (.inr (1, [.int 0, .int 0, .int 0, .int 0, .null]))) (12 + 2 * i) (by omega) (va_up_self _ _ _); rw [va_up_self] at h9; exact h9) (g_pre hE hG _) ⟨va_cnB (host := "Commutator") 0 hts gX2_init_X1_init_n17 rfl rfl rfl (hE.2.1 _ (List.mem_of_getElem? (i := 16) rfl)) (hts (.initialized RX1) (List.mem_of_getElem? (i := 7) rfl)) (by decide +kernel) ⟨Nat.le_of_ble_eq_true rfl, Nat.le_of_ble_eq_true rfl⟩, rfl, (hts (.instanceMethod yX1_init) (List.mem_of_getElem? (i := 8) rfl))⟩ rfl hl.1 rfl (Nat.le_of_ble_eq_true rfl) dX2_init_33 ⟨(by show cells + 1 + 1 ≤ 17; omega), (by show slots + 5 + 3 ≤ 72; omega)⟩ (fun v_ ad1 N1 w1 H locs hp hG => ?_)
        obtain ⟨rfl, q2, rfl, rfl, rfl⟩ := hp
        refine gR_astq hx hb hE hG (k := 11) (kv := 12 + 2 * i) ((va_up_ne _ _ (by omega)).trans (va_up_ne _ _ (by omega))) (by omega) ((va_up_ne _ _ (by omega)).trans (va_up_self _ _ _)) (by omega) (t0 := 3) (ci := 1) (r := (RX1, TX1, 5)) (by rw [va_up_ne _ _ (by omega), va_up_ne _ _ (by omega), va_up_ne _ _ (by omega)]; exact i4) rfl (va_up_self _ _ _) rfl i rfl (by omega) (by omega) dX2_init_36 (fun H locs hG => ?_)
        refine lv_iinc (v := nI (i + 1)) (lv' := [(1, .int (nI (i + 1))), (0, .ref (ad 10))]) hx hb dX2_init_37 hl (k := 0) rfl (by exact nI_add i 1) (by decide) rfl (fun ls hl => ?_)
        refine lv_goto (tgt := 15) hx hb dX2_init_40 (by decide) ?_
        exact ih (i + 1) _ _ _ _ (by omega) (gX2I_s hI (by omega) q q2 _ rfl) (by show cells + 1 + 1 ≤ _; omega) (by show slots + 5 + 3 ≤ _; omega) (by omega) H locs ls hG hl
  exact LL 9 0 _ _ _ _ (by omega) (gX2I_0 q) (by omega) (by omega) (by omega) H locs ls hG hl
set_option maxHeartbeats 4000000 in
set_option maxRecDepth 100000 in
theorem cX9_initC (l : Launch) (D : va_G) (cy : Nat → ClassId) (base : Nat) (ad : Nat → Nat) (w : Nat → va_E) (hw : w 0 = .inr (9, [.null, .null, .null, .null, .null, .null])) : gMetA l yX9_init wsX9_init ({ frames := 4, cells := 27, slots := 8181, locals := 90 } : Room) D cy base ad 1 w [.ref (ad 0)] (fun v_ ad1 N1 w1 => v_ = none ∧ N1 = 28 ∧ ad1 0 = ad 0 ∧ ∀ k, k < 28 → w1 k = gw cy ad1 0 (fun _ _ => 0) (fun _ _ => 0) k) 27 8181 := by
  refine gA_ofW (cc := cX9_init) (maxL := 1) (ret := none) (by decide) rfl (Nat.le_of_ble_eq_true rfl) ?_
  intro pM eM sM mM aM bM methM cM H locs ls hx hb hr hts hown hlocks hml hnm hEA hG hl
  have hE := hEA.1
  have hinX0 : ∀ w ∈ u_ws RX0 TX0 5, w ∈ wsX9_init := by decide +kernel
  have hinX1 : ∀ w ∈ u_ws RX1 TX1 5, w ∈ wsX9_init := by decide +kernel
  have hinX2 : ∀ w ∈ u_ws RX2 TX2 1, w ∈ wsX9_init := by decide +kernel
  have hinX3 : ∀ w ∈ u_ws RX3 TX3 3, w ∈ wsX9_init := by decide +kernel
  have hinX5 : ∀ w ∈ u_ws RX5 TX5 3, w ∈ wsX9_init := by decide +kernel
  have hinX6 : ∀ w ∈ u_ws RX6 TX6 3, w ∈ wsX9_init := by decide +kernel
  have hinX7 : ∀ w ∈ u_ws RX7 TX7 2, w ∈ wsX9_init := by decide +kernel
  have hinX8 : ∀ w ∈ u_ws RX8 TX8 7, w ∈ wsX9_init := by decide +kernel
  have hinX9 : ∀ w ∈ u_ws RX9 TX9 6, w ∈ wsX9_init := by decide +kernel
  have hl : lv_has ls 1 [(0, .ref (ad 0))] := hl
  refine lv_aload_n hx hb dX9_init_0 rfl (lv_at hl 0 rfl) ?_
  refine W.objInit hx hb hown (hts (.methodLink RX9 1 objectInit) (List.mem_of_getElem? (i := 1) rfl)) (hts (.instanceMethod objectInit) (List.mem_of_getElem? (i := 2) rfl)) (hts (.code objectInit ⟨#[0xb1]⟩ 1 none) (List.mem_of_getElem? (i := 3) rfl)) rfl (hl.1.trans hml.symm) rfl dX9_init_1 (Nat.le_of_ble_eq_true rfl) (Nat.le_of_ble_eq_true rfl) ?_
  refine lv_aload_n hx hb dX9_init_4 rfl (lv_at hl 0 rfl) ?_
  refine g_new (own := RX9) (C := RX5) (T := TX5) (NN := 3) (ci := 5) hx hb hts hinX5 tyX5 tyX5_ok hown (hts (.classLink RX9 7 RX5) (List.mem_of_getElem? (i := 4) rfl)) (hts (.instantiable RX5 3) (List.mem_of_getElem? (i := 5) rfl)) (hts (.initialized RX5) (List.mem_of_getElem? (i := 6) rfl)) hE hG rfl (fs := [.null, .int 0, .null]) (fun j9 hj9 => by have h9 : j9 = 0 ∨ j9 = 1 ∨ j9 = 2 := (by omega); rcases h9 with rfl | rfl | rfl <;> rfl) (Nat.le_of_ble_eq_true rfl) (Nat.le_of_ble_eq_true rfl) dX9_init_5 (fun q1 H locs hG => ?_)
  refine lv_dup hx hb dX9_init_8 rfl ?_
  refine gR_callIN (As := []) (rest := [.ref q1, .ref (ad 0)]) ⟨hx, hb, hml, hown, hts⟩ hG (cX5_initC l D cy base _ _ rfl) (gA_pre hEA hG _) ⟨va_cnB (host := "Commutator") 0 hts gX9_init_X5_init_n9 rfl rfl rfl (hE.2.1 _ (List.mem_of_getElem? (i := 0) rfl)) (hts (.initialized RX5) (List.mem_of_getElem? (i := 6) rfl)) (by decide +kernel) ⟨Nat.le_of_ble_eq_true rfl, Nat.le_of_ble_eq_true rfl⟩, rfl, (hts (.instanceMethod yX5_init) (List.mem_of_getElem? (i := 28) rfl))⟩ rfl hl.1 rfl (Nat.le_of_ble_eq_true rfl) dX9_init_9 ⟨Nat.le_of_ble_eq_true rfl, Nat.le_of_ble_eq_true rfl⟩ (fun v_ ad1 N1 w1 H locs hp hG => ?_)
  obtain ⟨rfl, q2, q3, rfl, rfl, rfl⟩ := hp
  refine gR_putF (C := RX9) (T := TX9) (NN := 6) (ci := 9) hx hb hts hinX9 tyX9 tyX9_ok nmX9 hown hE hG (k := 0) rfl (by decide) hw rfl 0 (by decide) (hts (.fieldLink RX9 10 "Commutator" "table" "LCommutator$PointTable;") (List.mem_of_getElem? (i := 7) rfl)) rfl rfl hnm rfl (ty := .object "Commutator$PointTable") (v := .ref q1) (by decide +kernel) rfl rfl (Nat.le_of_ble_eq_true rfl) dX9_init_12 (fun H locs hG => ?_)
  refine lv_aload_n hx hb dX9_init_15 rfl (lv_at hl 0 rfl) ?_
  refine g_new (own := RX9) (C := RX3) (T := TX3) (NN := 3) (ci := 3) hx hb hts hinX3 tyX3 tyX3_ok hown (hts (.classLink RX9 16 RX3) (List.mem_of_getElem? (i := 8) rfl)) (hts (.instantiable RX3 3) (List.mem_of_getElem? (i := 9) rfl)) (hts (.initialized RX3) (List.mem_of_getElem? (i := 10) rfl)) hE hG rfl (fs := [.null, .int 0, .int 0]) (fun j9 hj9 => by have h9 : j9 = 0 ∨ j9 = 1 ∨ j9 = 2 := (by omega); rcases h9 with rfl | rfl | rfl <;> rfl) (Nat.le_of_ble_eq_true rfl) (Nat.le_of_ble_eq_true rfl) dX9_init_16 (fun q4 H locs hG => ?_)
  refine lv_dup hx hb dX9_init_19 rfl ?_
  refine gR_callIN (As := []) (rest := [.ref q4, .ref (ad 0)]) ⟨hx, hb, hml, hown, hts⟩ hG (cX3_initC l D cy base _ _ rfl) (g_pre hE hG _) ⟨va_cnB (host := "Commutator") 0 hts gX9_init_X3_init_n18 rfl rfl rfl (hE.2.1 _ (List.mem_of_getElem? (i := 4) rfl)) (hts (.initialized RX3) (List.mem_of_getElem? (i := 10) rfl)) (by decide +kernel) ⟨Nat.le_of_ble_eq_true rfl, Nat.le_of_ble_eq_true rfl⟩, rfl, (hts (.instanceMethod yX3_init) (List.mem_of_getElem? (i := 35) rfl))⟩ rfl hl.1 rfl (Nat.le_of_ble_eq_true rfl) dX9_init_20 ⟨Nat.le_of_ble_eq_true rfl, Nat.le_of_ble_eq_true rfl⟩ (fun v_ ad1 N1 w1 H locs hp hG => ?_)
  obtain ⟨rfl, q5, rfl, rfl, rfl⟩ := hp
  refine gR_putF (C := RX9) (T := TX9) (NN := 6) (ci := 9) hx hb hts hinX9 tyX9 tyX9_ok nmX9 hown hE hG (k := 0) rfl (by decide) (fs := [.ref q1, .null, .null, .null, .null, .null]) rfl rfl 1 (by decide) (hts (.fieldLink RX9 19 "Commutator" "line" "LCommutator$Line;") (List.mem_of_getElem? (i := 11) rfl)) rfl rfl hnm rfl (ty := .object "Commutator$Line") (v := .ref q4) (by decide +kernel) rfl rfl (Nat.le_of_ble_eq_true rfl) dX9_init_23 (fun H locs hG => ?_)
  refine lv_aload_n hx hb dX9_init_26 rfl (lv_at hl 0 rfl) ?_
  refine g_new (own := RX9) (C := RX7) (T := TX7) (NN := 2) (ci := 7) hx hb hts hinX7 tyX7 tyX7_ok hown (hts (.classLink RX9 23 RX7) (List.mem_of_getElem? (i := 12) rfl)) (hts (.instantiable RX7 2) (List.mem_of_getElem? (i := 13) rfl)) (hts (.initialized RX7) (List.mem_of_getElem? (i := 14) rfl)) hE hG rfl (fs := [.int 0, .long 0]) (fun j9 hj9 => by have h9 : j9 = 0 ∨ j9 = 1 := (by omega); rcases h9 with rfl | rfl <;> rfl) (Nat.le_of_ble_eq_true rfl) (Nat.le_of_ble_eq_true rfl) dX9_init_27 (fun q6 H locs hG => ?_)
  refine lv_dup hx hb dX9_init_30 rfl ?_
  refine gR_callIN (As := []) (rest := [.ref q6, .ref (ad 0)]) ⟨hx, hb, hml, hown, hts⟩ hG (cX7_initC l D cy base _ _ _ q6) (g_pre hE hG _) ⟨va_cnB (host := "Commutator") 0 hts gX9_init_X7_init_n25 rfl rfl rfl (hE.2.1 _ (List.mem_of_getElem? (i := 5) rfl)) (hts (.initialized RX7) (List.mem_of_getElem? (i := 14) rfl)) (by decide +kernel) ⟨Nat.le_of_ble_eq_true rfl, Nat.le_of_ble_eq_true rfl⟩, rfl, (hts (.instanceMethod yX7_init) (List.mem_of_getElem? (i := 40) rfl))⟩ rfl hl.1 rfl (Nat.le_of_ble_eq_true rfl) dX9_init_31 ⟨Nat.le_of_ble_eq_true rfl, Nat.le_of_ble_eq_true rfl⟩ (fun v_ ad1 N1 w1 H locs hp hG => ?_)
  obtain ⟨rfl, rfl, rfl, rfl⟩ := hp
  refine gR_putF (C := RX9) (T := TX9) (NN := 6) (ci := 9) hx hb hts hinX9 tyX9 tyX9_ok nmX9 hown hE hG (k := 0) rfl (by decide) (fs := [.ref q1, .ref q4, .null, .null, .null, .null]) rfl rfl 2 (by decide) (hts (.fieldLink RX9 26 "Commutator" "sender" "LCommutator$Sender;") (List.mem_of_getElem? (i := 15) rfl)) rfl rfl hnm rfl (ty := .object "Commutator$Sender") (v := .ref q6) (by decide +kernel) rfl rfl (Nat.le_of_ble_eq_true rfl) dX9_init_34 (fun H locs hG => ?_)
  refine lv_aload_n hx hb dX9_init_37 rfl (lv_at hl 0 rfl) ?_
  refine g_new (own := RX9) (C := RX8) (T := TX8) (NN := 7) (ci := 8) hx hb hts hinX8 tyX8 tyX8_ok hown (hts (.classLink RX9 30 RX8) (List.mem_of_getElem? (i := 16) rfl)) (hts (.instantiable RX8 7) (List.mem_of_getElem? (i := 17) rfl)) (hts (.initialized RX8) (List.mem_of_getElem? (i := 18) rfl)) hE hG rfl (fs := [.int 0, .int 0, .long 0, .int 0, .int 0, .int 0, .null]) (fun j9 hj9 => by have h9 : j9 = 0 ∨ j9 = 1 ∨ j9 = 2 ∨ j9 = 3 ∨ j9 = 4 ∨ j9 = 5 ∨ j9 = 6 := (by omega); rcases h9 with rfl | rfl | rfl | rfl | rfl | rfl | rfl <;> rfl) (Nat.le_of_ble_eq_true rfl) (Nat.le_of_ble_eq_true rfl) dX9_init_38 (fun q7 H locs hG => ?_)
  refine lv_dup hx hb dX9_init_41 rfl ?_
  refine gR_callIN (As := []) (rest := [.ref q7, .ref (ad 0)]) ⟨hx, hb, hml, hown, hts⟩ hG (cX8_initC l D cy base _ _ rfl) (g_pre hE hG _) ⟨va_cnB (host := "Commutator") 0 hts gX9_init_X8_init_n32 rfl rfl rfl (hE.2.1 _ (List.mem_of_getElem? (i := 7) rfl)) (hts (.initialized RX8) (List.mem_of_getElem? (i := 18) rfl)) (by decide +kernel) ⟨Nat.le_of_ble_eq_true rfl, Nat.le_of_ble_eq_true rfl⟩, rfl, (hts (.instanceMethod yX8_init) (List.mem_of_getElem? (i := 43) rfl))⟩ rfl hl.1 rfl (Nat.le_of_ble_eq_true rfl) dX9_init_42 ⟨Nat.le_of_ble_eq_true rfl, Nat.le_of_ble_eq_true rfl⟩ (fun v_ ad1 N1 w1 H locs hp hG => ?_)
  obtain ⟨rfl, q8, rfl, rfl, rfl⟩ := hp
  refine gR_putF (C := RX9) (T := TX9) (NN := 6) (ci := 9) hx hb hts hinX9 tyX9 tyX9_ok nmX9 hown hE hG (k := 0) rfl (by decide) (fs := [.ref q1, .ref q4, .ref q6, .null, .null, .null]) rfl rfl 3 (by decide) (hts (.fieldLink RX9 33 "Commutator" "synchroniser" "LCommutator$Synchroniser;") (List.mem_of_getElem? (i := 19) rfl)) rfl rfl hnm rfl (ty := .object "Commutator$Synchroniser") (v := .ref q7) (by decide +kernel) rfl rfl (Nat.le_of_ble_eq_true rfl) dX9_init_45 (fun H locs hG => ?_)
  refine lv_aload_n hx hb dX9_init_48 rfl (lv_at hl 0 rfl) ?_
  refine g_new (own := RX9) (C := RX0) (T := TX0) (NN := 5) (ci := 0) hx hb hts hinX0 tyX0 tyX0_ok hown (hts (.classLink RX9 37 RX0) (List.mem_of_getElem? (i := 20) rfl)) (hts (.instantiable RX0 5) (List.mem_of_getElem? (i := 21) rfl)) (hts (.initialized RX0) (List.mem_of_getElem? (i := 22) rfl)) hE hG rfl (fs := [.int 0, .int 0, .int 0, .int 0, .int 0]) (fun j9 hj9 => by have h9 : j9 = 0 ∨ j9 = 1 ∨ j9 = 2 ∨ j9 = 3 ∨ j9 = 4 := (by omega); rcases h9 with rfl | rfl | rfl | rfl | rfl <;> rfl) (Nat.le_of_ble_eq_true rfl) (Nat.le_of_ble_eq_true rfl) dX9_init_49 (fun q9 H locs hG => ?_)
  refine lv_dup hx hb dX9_init_52 rfl ?_
  refine gR_callIN (As := []) (rest := [.ref q9, .ref (ad 0)]) ⟨hx, hb, hml, hown, hts⟩ hG (cX0_initC l D cy base _ _ _ q9) (g_pre hE hG _) ⟨va_cnB (host := "Commutator") 0 hts gX9_init_X0_init_n39 rfl rfl rfl (hE.2.1 _ (List.mem_of_getElem? (i := 11) rfl)) (hts (.initialized RX0) (List.mem_of_getElem? (i := 22) rfl)) (by decide +kernel) ⟨Nat.le_of_ble_eq_true rfl, Nat.le_of_ble_eq_true rfl⟩, rfl, (hts (.instanceMethod yX0_init) (List.mem_of_getElem? (i := 48) rfl))⟩ rfl hl.1 rfl (Nat.le_of_ble_eq_true rfl) dX9_init_53 ⟨Nat.le_of_ble_eq_true rfl, Nat.le_of_ble_eq_true rfl⟩ (fun v_ ad1 N1 w1 H locs hp hG => ?_)
  obtain ⟨rfl, rfl, rfl, rfl⟩ := hp
  refine gR_putF (C := RX9) (T := TX9) (NN := 6) (ci := 9) hx hb hts hinX9 tyX9 tyX9_ok nmX9 hown hE hG (k := 0) rfl (by decide) (fs := [.ref q1, .ref q4, .ref q6, .ref q7, .null, .null]) rfl rfl 4 (by decide) (hts (.fieldLink RX9 40 "Commutator" "decoder" "LCommutator$Decoder;") (List.mem_of_getElem? (i := 23) rfl)) rfl rfl hnm rfl (ty := .object "Commutator$Decoder") (v := .ref q9) (by decide +kernel) rfl rfl (Nat.le_of_ble_eq_true rfl) dX9_init_56 (fun H locs hG => ?_)
  refine lv_aload_n hx hb dX9_init_59 rfl (lv_at hl 0 rfl) ?_
  refine g_new (own := RX9) (C := RX2) (T := TX2) (NN := 1) (ci := 2) hx hb hts hinX2 tyX2 tyX2_ok hown (hts (.classLink RX9 44 RX2) (List.mem_of_getElem? (i := 24) rfl)) (hts (.instantiable RX2 1) (List.mem_of_getElem? (i := 25) rfl)) (hts (.initialized RX2) (List.mem_of_getElem? (i := 26) rfl)) hE hG rfl (fs := [.null]) (fun j9 hj9 => by have h9 : j9 = 0 := (by omega); subst h9; rfl) (Nat.le_of_ble_eq_true rfl) (Nat.le_of_ble_eq_true rfl) dX9_init_60 (fun q10 H locs hG => ?_)
  refine lv_dup hx hb dX9_init_63 rfl ?_
  refine gR_callI (As := []) (rest := [.ref q10, .ref (ad 0)]) ⟨hx, hb, hml, hown, hts⟩ hG (cX2_initC l D cy base _ _ rfl) (gA_pre hEA hG _) (cwI 0 hts gX9_init_X2_init rfl rfl rfl (hts (.initialized RX2) (List.mem_of_getElem? (i := 26) rfl)) (hts (.methodLink RX9 46 yX2_init) (List.mem_of_getElem? (i := 51) rfl)) (hts (.instanceMethod yX2_init) (List.mem_of_getElem? (i := 52) rfl)) rfl (by decide +kernel) ⟨Nat.le_of_ble_eq_true rfl, Nat.le_of_ble_eq_true rfl⟩) rfl hl.1 rfl (Nat.le_of_ble_eq_true rfl) dX9_init_64 ⟨Nat.le_of_ble_eq_true rfl, Nat.le_of_ble_eq_true rfl⟩ (fun v_ ad1 N1 w1 H locs hp hG => ?_)
  obtain ⟨rfl, rfl, hI⟩ := hp
  obtain ⟨i1, i2, i3, i4, i5⟩ := hI
  refine gR_putF (C := RX9) (T := TX9) (NN := 6) (ci := 9) hx hb hts hinX9 tyX9 tyX9_ok nmX9 hown hE hG (k := 0) (i1 0 (by decide)) (by decide) (fs := [.ref q1, .ref q4, .ref q6, .ref q7, .ref q9, .null]) (i2 0 (by decide)) rfl 5 (by decide) (hts (.fieldLink RX9 47 "Commutator" "derivedTable" "LCommutator$DerivedTable;") (List.mem_of_getElem? (i := 27) rfl)) rfl rfl hnm rfl (ty := .object "Commutator$DerivedTable") (v := .ref q10) (by decide +kernel) rfl rfl (Nat.le_of_ble_eq_true rfl) dX9_init_67 (fun H locs hG => ?_)
  refine gR_vret hx hb hr hlocks hG (Nat.le_of_ble_eq_true rfl) (Nat.le_of_ble_eq_true rfl) ⟨rfl, rfl, i1 0 (by decide), fun k hk => ?_⟩ dX9_init_70
  by_cases h12 : 12 ≤ k
  · obtain ⟨j, hj⟩ : ∃ j, k = 12 + 2 * j ∨ k = 12 + 2 * j + 1 := ⟨(k - 12) / 2, by omega⟩
    rcases hj with rfl | rfl
    · rw [va_up_ne _ _ (by omega), (i5 j (by omega)).1, gw_dv cy ad1 0 _ _ (by omega)]; rfl
    · rw [va_up_ne _ _ (by omega), (i5 j (by omega)).2, gw_rd cy ad1 0 _ _ (by omega)]; rfl
  · have h9 : k = 0 ∨ k = 1 ∨ k = 2 ∨ k = 3 ∨ k = 4 ∨ k = 5 ∨ k = 6 ∨ k = 7 ∨ k = 8 ∨ k = 9 ∨ k = 10 ∨ k = 11 := by omega
    rcases h9 with rfl | rfl | rfl | rfl | rfl | rfl | rfl | rfl | rfl | rfl | rfl | rfl
    · show (Sum.inr (9, [Value.ref q1, .ref q4, .ref q6, .ref q7, .ref q9, .ref q10]) : va_E) = Sum.inr (9, [.ref (ad1 1), .ref (ad1 4), .ref (ad1 6), .ref (ad1 7), .ref (ad1 9), .ref (ad1 10)])
      rw [i1 1 (by decide), i1 4 (by decide), i1 6 (by decide), i1 7 (by decide), i1 9 (by decide), i1 10 (by decide)]
      rfl
    · rw [va_up_ne _ _ (by decide), i2 1 (by decide)]
      show (_ : va_E) = Sum.inr (5, [.ref (ad1 2), .int 0, .ref (ad1 3)])
      rw [i1 2 (by decide), i1 3 (by decide)]
      rfl
    · rw [va_up_ne _ _ (by decide), i2 2 (by decide)]
      show (_ : va_E) = Sum.inl (cy 4, 12, .inr (.inr (.inr (.inr (fun i => if i < 0 then some (ad1 (33 + 2 * i)) else none)))))
      simp only [Nat.not_lt_zero, if_false]
      rfl
    · rw [va_up_ne _ _ (by decide), i2 3 (by decide)]; rfl
    · rw [va_up_ne _ _ (by decide), i2 4 (by decide)]
      show (_ : va_E) = Sum.inr (3, [.ref (ad1 5), .int 0, .int 0])
      rw [i1 5 (by decide)]
      rfl
    · rw [va_up_ne _ _ (by decide), i2 5 (by decide)]; rfl
    · rw [va_up_ne _ _ (by decide), i2 6 (by decide)]; rfl
    · rw [va_up_ne _ _ (by decide), i2 7 (by decide)]
      show (_ : va_E) = Sum.inr (8, [.int 0, .int 0, .long 0, .int 0, .int 0, .int 0, .ref (ad1 8)])
      rw [i1 8 (by decide)]
      rfl
    · rw [va_up_ne _ _ (by decide), i2 8 (by decide)]; rfl
    · rw [va_up_ne _ _ (by decide), i2 9 (by decide)]; rfl
    · rw [va_up_ne _ _ (by decide), i3]; rfl
    · rw [va_up_ne _ _ (by decide), i4]; rfl
