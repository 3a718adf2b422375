abbrev PX10_can (ad : Nat → Nat) (A : Nat → Nat → Int32) (J : Nat → Nat → Int64) (f : Nat) : Option Value → (Nat → Nat → Int32) → (Nat → Nat → Int64) → Prop := fun v_ A1 J1 => (v_ = some (.int (nI 1)) ∧ gu A 28 34 (nI f) = A1 ∧ J = J1 ∧ (f = 0)) ∨ (v_ = some (.int (nI 0)) ∧ gu A 28 34 (nI f) = A1 ∧ J = J1 ∧ (¬ f = 0))
set_option maxHeartbeats 4000000 in
set_option maxRecDepth 100000 in
theorem cX10_canC (l : Launch) (D : va_G) (cy : Nat → ClassId) (base : Nat) (ad : Nat → Nat) (n : Nat) (A : Nat → Nat → Int32) (J : Nat → Nat → Int64) (f : Nat) (hf : f < 2147483648) : gMet l yX10_can wsX10_can ({ frames := 0, cells := 0, slots := 0, locals := 0 } : Room) D cy base ad n A J [.ref (ad 28), .int (nI f)] (PX10_can ad A J f) := by
  refine g_ofW (cc := cX10_can) (maxL := 2) (ret := (some .boolean)) (by decide) rfl (Nat.le_of_ble_eq_true rfl) ?_
  intro pM eM sM mM aM bM methM cM H locs ls hx hb hr hts hown hlocks hml hE hG hl
  have hl : lv_has ls 2 [(0, .ref (ad 28)), (1, .int (nI f))] := hl
  have hinX10 : ∀ w ∈ u_ws RX10 TX10 35, w ∈ wsX10_can := by decide +kernel
  refine lv_aload_n hx hb dX10_can_0 rfl (lv_at hl 0 rfl) ?_
  refine lv_iload_n hx hb dX10_can_1 rfl (lv_at hl 1 rfl) ?_
  refine g_puti (C := RX10) (T := TX10) (NN := 35) (ci := 10) hx hb hts hinX10 tyX10 tyX10_ok nmX10 hown hE hG (k := 28) (by omega) rfl rfl 34 (by decide) (hts (.fieldLink RX10 78 "CommutatorModel" "thrown" "I") (List.mem_of_getElem? (i := 1) rfl)) rfl rfl (ty := .int) (v := nI f) (by decide +kernel) rfl rfl (Nat.le_of_ble_eq_true rfl) rfl dX10_can_2 (fun H locs hG => ?_)
  refine lv_iload_n hx hb dX10_can_5 rfl (lv_at hl 1 rfl) ?_
  refine lv_if_ne (tgt := 13) hx hb dX10_can_6 (by decide) (fun c6 => ?_) (fun c6 => ?_)
  · skip
    have c6 : ¬ ((nI f) = nI 0) := c6
    have c6 : ¬ (f = 0) := fun z9 => c6 ((nI_eq (by omega) (by omega)).mpr z9)
    refine lv_iconst (v := nI 0) hx hb dX10_can_13 (by decide) ?_
    exact g_zret hx hb hr hlocks hG rfl (by first | exact Or.inl ⟨rfl, rfl, rfl, (by first | omega | rfl | assumption)⟩ | exact Or.inr (⟨rfl, rfl, rfl, (by first | omega | rfl | assumption)⟩)) dX10_can_14
  · skip
    have c6 : (nI f) = nI 0 := c6
    have c6 : f = 0 := (nI_eq (by omega) (by omega)).mp c6
    refine lv_iconst (v := nI 1) hx hb dX10_can_9 (by decide) ?_
    refine lv_goto (tgt := 14) hx hb dX10_can_10 (by decide) ?_
    exact g_zret hx hb hr hlocks hG rfl (by first | exact Or.inl ⟨rfl, rfl, rfl, (by first | omega | rfl | assumption)⟩ | exact Or.inr (⟨rfl, rfl, rfl, (by first | omega | rfl | assumption)⟩)) dX10_can_14

abbrev PX10_isIn (ad : Nat → Nat) (A : Nat → Nat → Int32) (J : Nat → Nat → Int64) (x : Int32) (f t : Int) : Option Value → (Nat → Nat → Int32) → (Nat → Nat → Int64) → Prop := fun v_ A1 J1 => (v_ = some (.int (nI 1)) ∧ A = A1 ∧ J = J1 ∧ (f ≤ x.toInt ∧ x.toInt ≤ t)) ∨ (v_ = some (.int (nI 0)) ∧ A = A1 ∧ J = J1 ∧ (¬ (f ≤ x.toInt ∧ x.toInt ≤ t)))
set_option maxHeartbeats 4000000 in
set_option maxRecDepth 100000 in
theorem cX10_isInC (l : Launch) (D : va_G) (cy : Nat → ClassId) (base : Nat) (ad : Nat → Nat) (n : Nat) (A : Nat → Nat → Int32) (J : Nat → Nat → Int64) (x : Int32) (f t : Int) (hf1 : -2147483648 ≤ f) (hf2 : f < 2147483648) (ht1 : -2147483648 ≤ t) (ht2 : t < 2147483648) : gMet l yX10_isIn wsX10_isIn ({ frames := 0, cells := 0, slots := 0, locals := 0 } : Room) D cy base ad n A J [.int x, .int (zI f), .int (zI t)] (PX10_isIn ad A J x f t) := by
  refine g_ofW (cc := cX10_isIn) (maxL := 3) (ret := (some .boolean)) (by decide) rfl (Nat.le_of_ble_eq_true rfl) ?_
  intro pM eM sM mM aM bM methM cM H locs ls hx hb hr hts hown hlocks hml hE hG hl
  have hl : lv_has ls 3 [(0, .int x), (1, .int (zI f)), (2, .int (zI t))] := hl
  refine lv_iload_n hx hb dX10_isIn_0 rfl (lv_at hl 0 rfl) ?_
  refine lv_iload_n hx hb dX10_isIn_1 rfl (lv_at hl 1 rfl) ?_
  refine lv_icmp_lt (tgt := 14) hx hb dX10_isIn_2 (by decide) (fun c2 => ?_) (fun c2 => ?_)
  · skip
    have c2 : x.toInt < f := (cmp_lt rfl (zI_toInt (by omega) (by omega))).mp c2
    refine lv_iconst (v := nI 0) hx hb dX10_isIn_14 (by decide) ?_
    exact g_zret hx hb hr hlocks hG rfl (by first | exact Or.inl ⟨rfl, rfl, rfl, (by first | omega | rfl | assumption)⟩ | exact Or.inr (⟨rfl, rfl, rfl, (by first | omega | rfl | assumption)⟩)) dX10_isIn_15
  · skip
    have c2 : ¬ (x.toInt < f) := fun z9 => c2 ((cmp_lt rfl (zI_toInt (by omega) (by omega))).mpr z9)
    refine lv_iload_n hx hb dX10_isIn_5 rfl (lv_at hl 0 rfl) ?_
    refine lv_iload_n hx hb dX10_isIn_6 rfl (lv_at hl 2 rfl) ?_
    refine lv_icmp_gt (tgt := 14) hx hb dX10_isIn_7 (by decide) (fun c7 => ?_) (fun c7 => ?_)
    · skip
      have c7 : t < x.toInt := (cmp_lt (zI_toInt (by omega) (by omega)) rfl).mp c7
      refine lv_iconst (v := nI 0) hx hb dX10_isIn_14 (by decide) ?_
      exact g_zret hx hb hr hlocks hG rfl (by first | exact Or.inl ⟨rfl, rfl, rfl, (by first | omega | rfl | assumption)⟩ | exact Or.inr (⟨rfl, rfl, rfl, (by first | omega | rfl | assumption)⟩)) dX10_isIn_15
    · skip
      have c7 : ¬ (t < x.toInt) := fun z9 => c7 ((cmp_lt (zI_toInt (by omega) (by omega)) rfl).mpr z9)
      refine lv_iconst (v := nI 1) hx hb dX10_isIn_10 (by decide) ?_
      refine lv_goto (tgt := 15) hx hb dX10_isIn_11 (by decide) ?_
      exact g_zret hx hb hr hlocks hG rfl (by first | exact Or.inl ⟨rfl, rfl, rfl, (by first | omega | rfl | assumption)⟩ | exact Or.inr (⟨rfl, rfl, rfl, (by first | omega | rfl | assumption)⟩)) dX10_isIn_15

abbrev PX10_isPoint (ad : Nat → Nat) (A : Nat → Nat → Int32) (J : Nat → Nat → Int64) (G : Nat → Nat → Int) (x : Int32) : Option Value → (Nat → Nat → Int32) → (Nat → Nat → Int64) → Prop := fun v_ A1 J1 => (v_ = some (.int (nI 1)) ∧ A = A1 ∧ J = J1 ∧ (0 ≤ x.toInt ∧ x.toInt < G 28 0)) ∨ (v_ = some (.int (nI 0)) ∧ A = A1 ∧ J = J1 ∧ (¬ (0 ≤ x.toInt ∧ x.toInt < G 28 0)))
set_option maxHeartbeats 4000000 in
set_option maxRecDepth 100000 in
theorem cX10_isPointC (l : Launch) (D : va_G) (cy : Nat → ClassId) (base : Nat) (ad : Nat → Nat) (n : Nat) (A : Nat → Nat → Int32) (J : Nat → Nat → Int64) (G : Nat → Nat → Int) (x : Int32) (hM : MSt A G) (hn : 0 ≤ G 28 0 ∧ G 28 0 ≤ 12) : gMet l yX10_isPoint wsX10_isPoint ({ frames := 1, cells := 0, slots := 0, locals := 22 } : Room) D cy base ad n A J [.ref (ad 28), .int x] (PX10_isPoint ad A J G x) := by
  refine g_ofW (cc := cX10_isPoint) (maxL := 2) (ret := (some .boolean)) (by decide) rfl (Nat.le_of_ble_eq_true rfl) ?_
  intro pM eM sM mM aM bM methM cM H locs ls hx hb hr hts hown hlocks hml hE hG hl
  have hl : lv_has ls 2 [(0, .ref (ad 28)), (1, .int x)] := hl
  have hinX10 : ∀ w ∈ u_ws RX10 TX10 35, w ∈ wsX10_isPoint := by decide +kernel
  refine lv_iload_n hx hb dX10_isPoint_0 rfl (lv_at hl 1 rfl) ?_
  refine lv_iconst (v := nI 0) hx hb dX10_isPoint_1 (by decide) ?_
  refine lv_aload_n hx hb dX10_isPoint_2 rfl (lv_at hl 0 rfl) ?_
  refine g_get (C := RX10) (T := TX10) (NN := 35) (ci := 10) hx hb hts hinX10 hown hE hG (k := 28) (by omega) rfl rfl 0 (by decide) (hts (.fieldLink RX10 81 "CommutatorModel" "points" "I") (List.mem_of_getElem? (i := 1) rfl)) rfl (v := .int (A 28 0)) rfl dX10_isPoint_3 ?_
  refine g_top (y := zI (G 28 0)) (hM.1) ?_
  refine lv_iconst (v := nI 1) hx hb dX10_isPoint_6 (by decide) ?_
  refine lv_isub hx hb dX10_isPoint_7 ?_
  refine g_top (y := zI ((G 28 0) - 1)) (zI_sub_in _ _) ?_
  refine g_callS (As := [.int x, .int (nI 0), .int (zI ((G 28 0) - 1))]) (rest := []) ⟨hx, hb, hml, hown, hts⟩ hE hG (cX10_isInC l D cy base ad n A J x 0 ((G 28 0) - 1) (by first | assumption | omega) (by first | assumption | omega) (by first | assumption | omega) (by first | assumption | omega)) (va_cwS 3 hts gX10_isPoint_X10_isIn rfl rfl rfl (by decide +kernel) ⟨Nat.le_of_ble_eq_true rfl, Nat.le_of_ble_eq_true rfl⟩) rfl hl.1 rfl (Nat.le_of_ble_eq_true rfl) dX10_isPoint_8 ⟨Nat.zero_le _, Nat.zero_le _⟩ (fun v_ A8 J8 H locs hp hG => ?_)
  rcases hp with ⟨rfl, rfl, rfl, hC_8⟩ | ⟨rfl, rfl, rfl, hC_8⟩
  · refine W.eq (g2 := F0 mM 11 ls [.int (nI 1)]) rfl ?_
    exact g_zret hx hb hr hlocks hG rfl (Or.inl ⟨rfl, rfl, rfl, by omega⟩) dX10_isPoint_11
  · refine W.eq (g2 := F0 mM 11 ls [.int (nI 0)]) rfl ?_
    exact g_zret hx hb hr hlocks hG rfl (Or.inr ⟨rfl, rfl, rfl, by omega⟩) dX10_isPoint_11

abbrev PX10_isSent (ad : Nat → Nat) (A : Nat → Nat → Int32) (J : Nat → Nat → Int64) (G : Nat → Nat → Int) (k : Nat) (c : Int) : Option Value → (Nat → Nat → Int32) → (Nat → Nat → Int64) → Prop := fun v_ A1 J1 => (v_ = some (.int (nI 1)) ∧ A = A1 ∧ J = J1 ∧ (c % G 31 k = G 33 k)) ∨ (v_ = some (.int (nI 0)) ∧ A = A1 ∧ J = J1 ∧ (¬ (c % G 31 k = G 33 k)))
set_option maxHeartbeats 4000000 in
set_option maxRecDepth 100000 in
theorem cX10_isSentC (l : Launch) (D : va_G) (cy : Nat → ClassId) (base : Nat) (ad : Nat → Nat) (n : Nat) (A : Nat → Nat → Int32) (J : Nat → Nat → Int64) (G : Nat → Nat → Int) (k : Nat) (c : Int) (hM : MSt A G) (hk : k < 12) (hT : TOk G k) (hc : 0 ≤ c) (hc2 : c < 2147483648) : gMet l yX10_isSent wsX10_isSent ({ frames := 0, cells := 0, slots := 0, locals := 0 } : Room) D cy base ad n A J [.ref (ad 28), .int (nI k), .int (zI c)] (PX10_isSent ad A J G k c) := by
  refine g_ofW (cc := cX10_isSent) (maxL := 3) (ret := (some .boolean)) (by decide) rfl (Nat.le_of_ble_eq_true rfl) ?_
  intro pM eM sM mM aM bM methM cM H locs ls hx hb hr hts hown hlocks hml hE hG hl
  have hl : lv_has ls 3 [(0, .ref (ad 28)), (1, .int (nI k)), (2, .int (zI c))] := hl
  have hinX10 : ∀ w ∈ u_ws RX10 TX10 35, w ∈ wsX10_isSent := by decide +kernel
  have hm1 := Int.emod_nonneg c (show G 31 k ≠ 0 by omega)
  have hm2 := Int.emod_lt_of_pos c (show 0 < G 31 k by omega)
  refine lv_iload_n hx hb dX10_isSent_0 rfl (lv_at hl 2 rfl) ?_
  refine lv_aload_n hx hb dX10_isSent_1 rfl (lv_at hl 0 rfl) ?_
  refine g_get (C := RX10) (T := TX10) (NN := 35) (ci := 10) hx hb hts hinX10 hown hE hG (k := 28) (by omega) rfl rfl 3 (by decide) (hts (.fieldLink RX10 16 "CommutatorModel" "period" "[I") (List.mem_of_getElem? (i := 1) rfl)) rfl (v := .ref (ad 31)) rfl dX10_isSent_2 ?_
  refine lv_iload_n hx hb dX10_isSent_5 rfl (lv_at hl 1 rfl) ?_
  refine g_iald hx hb hE hG (k := 31) (by omega) rfl k (rfl) (by omega) (by omega) dX10_isSent_6 ?_
  refine g_top (y := zI (G 31 k)) (hM.2 31 k (by omega) (by omega)) ?_
  refine lv_irem hx hb dX10_isSent_7 (zI_ne0 (by omega) (by omega)) ?_
  refine g_top (y := zI (c % G 31 k)) (zI_rem (by omega) (by omega) (by omega) (by omega)) ?_
  refine lv_aload_n hx hb dX10_isSent_8 rfl (lv_at hl 0 rfl) ?_
  refine g_get (C := RX10) (T := TX10) (NN := 35) (ci := 10) hx hb hts hinX10 hown hE hG (k := 28) (by omega) rfl rfl 5 (by decide) (hts (.fieldLink RX10 22 "CommutatorModel" "phase" "[I") (List.mem_of_getElem? (i := 2) rfl)) rfl (v := .ref (ad 33)) rfl dX10_isSent_9 ?_
  refine lv_iload_n hx hb dX10_isSent_12 rfl (lv_at hl 1 rfl) ?_
  refine g_iald hx hb hE hG (k := 33) (by omega) rfl k (rfl) (by omega) (by omega) dX10_isSent_13 ?_
  refine g_top (y := zI (G 33 k)) (hM.2 33 k (by omega) (by omega)) ?_
  refine lv_icmp_ne (tgt := 21) hx hb dX10_isSent_14 (by decide) (fun c14 => ?_) (fun c14 => ?_)
  · skip
    have c14 : ¬ ((c % G 31 k) = (G 33 k)) := fun z9 => c14 ((cmp_eq (zI_toInt (by omega) (by omega)) (zI_toInt (by omega) (by omega))).mpr z9)
    refine lv_iconst (v := nI 0) hx hb dX10_isSent_21 (by decide) ?_
    exact g_zret hx hb hr hlocks hG rfl (by first | exact Or.inl ⟨rfl, rfl, rfl, (by first | omega | rfl | assumption)⟩ | exact Or.inr (⟨rfl, rfl, rfl, (by first | omega | rfl | assumption)⟩)) dX10_isSent_22
  · skip
    have c14 : (c % G 31 k) = (G 33 k) := (cmp_eq (zI_toInt (by omega) (by omega)) (zI_toInt (by omega) (by omega))).mp c14
    refine lv_iconst (v := nI 1) hx hb dX10_isSent_17 (by decide) ?_
    refine lv_goto (tgt := 22) hx hb dX10_isSent_18 (by decide) ?_
    exact g_zret hx hb hr hlocks hG rfl (by first | exact Or.inl ⟨rfl, rfl, rfl, (by first | omega | rfl | assumption)⟩ | exact Or.inr (⟨rfl, rfl, rfl, (by first | omega | rfl | assumption)⟩)) dX10_isSent_22

abbrev PX10_userOf (ad : Nat → Nat) (A : Nat → Nat → Int32) (J : Nat → Nat → Int64) (G : Nat → Nat → Int) (c b : Int) : Option Value → (Nat → Nat → Int32) → (Nat → Nat → Int64) → Prop := fun v_ A1 J1 => (v_ = some (.int (zI (mUser G c b (G 28 0).toNat))) ∧ A = A1 ∧ J = J1)
set_option maxHeartbeats 4000000 in
set_option maxRecDepth 100000 in
theorem cX10_userOfC (l : Launch) (D : va_G) (cy : Nat → ClassId) (base : Nat) (ad : Nat → Nat) (n : Nat) (A : Nat → Nat → Int32) (J : Nat → Nat → Int64) (G : Nat → Nat → Int) (c b : Int) (hM : MSt A G) (hT : TsOk G) (hc : 0 ≤ c) (hc2 : c < 2147483648) (hb : -2147483648 ≤ b) (hb2 : b < 2147483648) : gMet l yX10_userOf wsX10_userOf ({ frames := 1, cells := 0, slots := 0, locals := 22 } : Room) D cy base ad n A J [.ref (ad 28), .int (zI c), .int (zI b)] (PX10_userOf ad A J G c b) := by
  refine g_ofW (cc := cX10_userOf) (maxL := 7) (ret := (some .int)) (by decide) rfl (Nat.le_of_ble_eq_true rfl) ?_
  intro pM eM sM mM aM bM methM cM H locs ls hx hb hr hts hown hlocks hml hE hG hl
  have hl : lv_has ls 7 [(0, .ref (ad 28)), (1, .int (zI c)), (2, .int (zI b))] := hl
  have hinX10 : ∀ w ∈ u_ws RX10 TX10 35, w ∈ wsX10_userOf := by decide +kernel
  refine lv_iconst (v := zI (-1)) hx hb dX10_userOf_0 (by decide) ?_
  refine lv_istore_n (lv' := [(3, .int (zI (-1))), (0, .ref (ad 28)), (1, .int (zI c)), (2, .int (zI b))]) hx hb dX10_userOf_1 rfl hl (by decide) rfl (fun ls hl => ?_)
  refine lv_iconst (v := nI 0) hx hb dX10_userOf_2 (by decide) ?_
  refine lv_istore (lv' := [(4, .int (nI 0)), (3, .int (zI (-1))), (0, .ref (ad 28)), (1, .int (zI c)), (2, .int (zI b))]) hx hb dX10_userOf_3 hl (by decide) rfl (fun ls hl => ?_)
  have LLq5 : ∀ (fuel : Nat) (k : Nat) (hk : (k : Int) ≤ G 28 0) (_ : 12 - k < fuel) (H : Heap) (locs : List Loc) (ls : Array Slot), gH D base sM ad (50 + 2 * n) (gw cy ad n A J) H locs → lv_has ls 7 [(0, .ref (ad 28)), (1, .int (zI c)), (2, .int (zI b)), (3, .int (zI (mUser G c b k))), (4, .int (nI k))] → W pM l eM ({ frames := 1, cells := 0, slots := 0, locals := 22 } : Room) sM mM aM bM methM cM H locs 0 0 (MQ bM (gPost D cy base ad n (PX10_userOf ad A J G c b)) aM sM 0 0 (fun q => base ≤ q)) (F0 mM 5 ls []) := by
    intro fuel
    induction fuel with
    | zero => intro k hk hms H locs ls hG hl; exact absurd hms (Nat.not_lt_zero _)
    | succ fuel ihq5 =>
      intro k hk hms H locs ls hG hl
      refine lv_iload hx hb dX10_userOf_5 (lv_at hl 4 rfl) ?_
      refine lv_aload_n hx hb dX10_userOf_7 rfl (lv_at hl 0 rfl) ?_
      refine g_get (C := RX10) (T := TX10) (NN := 35) (ci := 10) hx hb hts hinX10 hown hE hG (k := 28) (by omega) rfl rfl 0 (by decide) (hts (.fieldLink RX10 81 "CommutatorModel" "points" "I") (List.mem_of_getElem? (i := 1) rfl)) rfl (v := .int (A 28 0)) rfl dX10_userOf_8 ?_
      refine g_top (y := zI (G 28 0)) (hM.1) ?_
      refine lv_icmp_ge (tgt := 138) hx hb dX10_userOf_11 (by decide) (fun c11 => ?_) (fun c11 => ?_)
      · skip
        have c11 : (G 28 0) ≤ ((k : Nat) : Int) := (cmp_le (zI_toInt (by omega) (by omega)) (nI_toInt (by omega))).mp c11
        have hkk : k = (G 28 0).toNat := by omega
        subst hkk
        refine lv_iload_n hx hb dX10_userOf_138 rfl (lv_at hl 3 rfl) ?_
        exact g_iret hx hb hr hlocks hG ⟨rfl, rfl, rfl⟩ dX10_userOf_139
      · skip
        have c11 : ¬ ((G 28 0) ≤ ((k : Nat) : Int)) := fun z9 => c11 ((cmp_le (zI_toInt (by omega) (by omega)) (nI_toInt (by omega))).mpr z9)
        have hTk := hT.2.2 k (by omega)
        have hmu := mUser_range G c b k
        have LLq49 : ∀  (xq : Nat) (hxq : (xq = 1 ∧ (G 34 k ≤ b ∧ b < G 34 k + G 29 k)) ∨ (xq = 0 ∧ ¬ (G 34 k ≤ b ∧ b < G 34 k + G 29 k))) (H : Heap) (locs : List Loc) (ls : Array Slot), gH D base sM ad (50 + 2 * n) (gw cy ad n A J) H locs → lv_has ls 7 [(0, .ref (ad 28)), (1, .int (zI c)), (2, .int (zI b)), (3, .int (zI (mUser G c b k))), (4, .int (nI k))] → W pM l eM ({ frames := 1, cells := 0, slots := 0, locals := 22 } : Room) sM mM aM bM methM cM H locs 0 0 (MQ bM (gPost D cy base ad n (PX10_userOf ad A J G c b)) aM sM 0 0 (fun q => base ≤ q)) (F0 mM 49 ls [.int (nI xq)]) := by
          intro xq hxq H locs ls hG hl
          refine lv_istore (lv' := [(5, .int (nI xq)), (0, .ref (ad 28)), (1, .int (zI c)), (2, .int (zI b)), (3, .int (zI (mUser G c b k))), (4, .int (nI k))]) hx hb dX10_userOf_49 hl (by decide) rfl (fun ls hl => ?_)
          have LLq103 : ∀  (yq : Nat) (hyq : (yq = 1 ∧ (G 32 k = 2 ∧ 24 + G 34 k ≤ b ∧ b < 24 + G 34 k + G 29 k)) ∨ (yq = 0 ∧ ¬ (G 32 k = 2 ∧ 24 + G 34 k ≤ b ∧ b < 24 + G 34 k + G 29 k))) (H : Heap) (locs : List Loc) (ls : Array Slot), gH D base sM ad (50 + 2 * n) (gw cy ad n A J) H locs → lv_has ls 7 [(5, .int (nI xq)), (0, .ref (ad 28)), (1, .int (zI c)), (2, .int (zI b)), (3, .int (zI (mUser G c b k))), (4, .int (nI k))] → W pM l eM ({ frames := 1, cells := 0, slots := 0, locals := 22 } : Room) sM mM aM bM methM cM H locs 0 0 (MQ bM (gPost D cy base ad n (PX10_userOf ad A J G c b)) aM sM 0 0 (fun q => base ≤ q)) (F0 mM 103 ls [.int (nI yq)]) := by
            intro yq hyq H locs ls hG hl
            refine lv_istore (lv' := [(6, .int (nI yq)), (5, .int (nI xq)), (0, .ref (ad 28)), (1, .int (zI c)), (2, .int (zI b)), (3, .int (zI (mUser G c b k))), (4, .int (nI k))]) hx hb dX10_userOf_103 hl (by decide) rfl (fun ls hl => ?_)
            have LLq131 : ∀  (zq : Int) (hzq : zq = mUser G c b (k + 1)) (H : Heap) (locs : List Loc) (ls : Array Slot), gH D base sM ad (50 + 2 * n) (gw cy ad n A J) H locs → lv_has ls 7 [(6, .int (nI yq)), (5, .int (nI xq)), (0, .ref (ad 28)), (1, .int (zI c)), (2, .int (zI b)), (3, .int (zI (mUser G c b k))), (4, .int (nI k))] → W pM l eM ({ frames := 1, cells := 0, slots := 0, locals := 22 } : Room) sM mM aM bM methM cM H locs 0 0 (MQ bM (gPost D cy base ad n (PX10_userOf ad A J G c b)) aM sM 0 0 (fun q => base ≤ q)) (F0 mM 131 ls [.int (zI zq)]) := by
              intro zq hzq H locs ls hG hl
              subst hzq
              refine lv_istore_n (lv' := [(3, .int (zI (mUser G c b (k + 1)))), (6, .int (nI yq)), (5, .int (nI xq)), (0, .ref (ad 28)), (1, .int (zI c)), (2, .int (zI b)), (4, .int (nI k))]) hx hb dX10_userOf_131 rfl hl (by decide) rfl (fun ls hl => ?_)
              refine lv_iinc (v := nI (k + 1)) (lv' := [(4, .int (nI (k + 1))), (3, .int (zI (mUser G c b (k + 1)))), (6, .int (nI yq)), (5, .int (nI xq)), (0, .ref (ad 28)), (1, .int (zI c)), (2, .int (zI b))]) hx hb dX10_userOf_132 hl (k := 6) rfl (by rw [show (Int32.ofInt 1 : Int32) = nI 1 from rfl, nI_add]) (by decide) rfl (fun ls hl => ?_)
              refine lv_goto (tgt := 5) hx hb dX10_userOf_135 (by decide) ?_
              exact ihq5 (k + 1) (by omega) (by omega) _ _ _ hG (lv_sub hl [4, 5, 6, 1, 0] rfl)
            refine lv_aload_n hx hb dX10_userOf_105 rfl (lv_at hl 2 rfl) ?_
            refine lv_iload hx hb dX10_userOf_106 (lv_at hl 6 rfl) ?_
            refine lv_iload_n hx hb dX10_userOf_108 rfl (lv_at hl 3 rfl) ?_
            refine g_callV (As := [.int (nI k), .int (zI c)]) (rest := []) (r := (RX10, TX10, 35)) ⟨hx, hb, hml, hown, hts⟩ hE hG (cX10_isSentC l D cy base ad n A J G k c (by first | exact hM | exact hM.st | exact hM.pa | exact hM.th _ | exact (hM.th _).st | exact (hM.th _).pa | exact (hM.th _).th _ | exact ((hM.th _).th _).st) (by first | assumption | omega) (by first | assumption | omega) (by first | assumption | omega) (by first | assumption | omega)) (cwV 2 hts gX10_userOf_X10_isSent rfl rfl rfl (by decide +kernel) ⟨Nat.le_of_ble_eq_true rfl, Nat.le_of_ble_eq_true rfl⟩) (by omega) rfl rfl rfl hl.1 rfl (Nat.le_of_ble_eq_true rfl) dX10_userOf_109 ⟨Nat.zero_le _, Nat.zero_le _⟩ (fun v_ A109 J109 H locs hp hG => ?_)
            rcases hp with ⟨rfl, rfl, rfl, hC_109⟩ | ⟨rfl, rfl, rfl, hC_109⟩
            · refine W.eq (g2 := F0 mM 112 ls [.int (nI 1)]) rfl ?_
              refine lv_if_eq (tgt := 130) hx hb dX10_userOf_112 (by decide) (fun c112 => ?_) (fun c112 => ?_)
              · skip
                exact absurd c112 (by decide)
              · skip
                refine lv_iload hx hb dX10_userOf_115 (lv_at hl 1 rfl) ?_
                refine lv_if_ne (tgt := 125) hx hb dX10_userOf_117 (by decide) (fun c117 => ?_) (fun c117 => ?_)
                · skip
                  have c117 : ¬ ((nI xq) = nI 0) := c117
                  have c117 : ¬ (xq = 0) := fun z9 => c117 ((nI_eq (by omega) (by omega)).mpr z9)
                  refine lv_iload hx hb dX10_userOf_125 (lv_at hl 6 rfl) ?_
                  refine lv_goto (tgt := 131) hx hb dX10_userOf_127 (by decide) ?_
                  exact LLq131 ((k : Nat) : Int) (by simp only [mUser]; first | rw [if_pos (by unfold mCov; omega)] | rw [if_neg (by unfold mCov; omega)]) _ _ _ hG (lv_sub hl [0, 1, 2, 3, 4, 5, 6] rfl)
                · skip
                  have c117 : (nI xq) = nI 0 := c117
                  have c117 : xq = 0 := (nI_eq (by omega) (by omega)).mp c117
                  refine lv_iload hx hb dX10_userOf_120 (lv_at hl 0 rfl) ?_
                  refine lv_if_eq (tgt := 130) hx hb dX10_userOf_122 (by decide) (fun c122 => ?_) (fun c122 => ?_)
                  · skip
                    have c122 : (nI yq) = nI 0 := c122
                    have c122 : yq = 0 := (nI_eq (by omega) (by omega)).mp c122
                    refine lv_iload_n hx hb dX10_userOf_130 rfl (lv_at hl 5 rfl) ?_
                    exact LLq131 (mUser G c b k) (by simp only [mUser]; first | rw [if_pos (by unfold mCov; omega)] | rw [if_neg (by unfold mCov; omega)]) _ _ _ hG (lv_sub hl [0, 1, 2, 3, 4, 5, 6] rfl)
                  · skip
                    have c122 : ¬ ((nI yq) = nI 0) := c122
                    have c122 : ¬ (yq = 0) := fun z9 => c122 ((nI_eq (by omega) (by omega)).mpr z9)
                    refine lv_iload hx hb dX10_userOf_125 (lv_at hl 6 rfl) ?_
                    refine lv_goto (tgt := 131) hx hb dX10_userOf_127 (by decide) ?_
                    exact LLq131 ((k : Nat) : Int) (by simp only [mUser]; first | rw [if_pos (by unfold mCov; omega)] | rw [if_neg (by unfold mCov; omega)]) _ _ _ hG (lv_sub hl [0, 1, 2, 3, 4, 5, 6] rfl)
            · refine W.eq (g2 := F0 mM 112 ls [.int (nI 0)]) rfl ?_
              refine lv_if_eq (tgt := 130) hx hb dX10_userOf_112 (by decide) (fun c112 => ?_) (fun c112 => ?_)
              · skip
                refine lv_iload_n hx hb dX10_userOf_130 rfl (lv_at hl 5 rfl) ?_
                exact LLq131 (mUser G c b k) (by simp only [mUser]; first | rw [if_pos (by unfold mCov; omega)] | rw [if_neg (by unfold mCov; omega)]) _ _ _ hG (lv_sub hl [0, 1, 2, 3, 4, 5, 6] rfl)
              · skip
                exact absurd c112 (by decide)
          refine lv_aload_n hx hb dX10_userOf_51 rfl (lv_at hl 1 rfl) ?_
          refine g_get (C := RX10) (T := TX10) (NN := 35) (ci := 10) hx hb hts hinX10 hown hE hG (k := 28) (by omega) rfl rfl 4 (by decide) (hts (.fieldLink RX10 19 "CommutatorModel" "samplesEach" "[I") (List.mem_of_getElem? (i := 4) rfl)) rfl (v := .ref (ad 32)) rfl dX10_userOf_52 ?_
          refine lv_iload hx hb dX10_userOf_55 (lv_at hl 5 rfl) ?_
          refine g_iald hx hb hE hG (k := 32) (by omega) rfl k (rfl) (by omega) (by omega) dX10_userOf_57 ?_
          refine g_top (y := zI (G 32 k)) (hM.2 32 k (by omega) (by omega)) ?_
          refine lv_iconst (v := nI 2) hx hb dX10_userOf_58 (by decide) ?_
          refine lv_icmp_ne (tgt := 102) hx hb dX10_userOf_59 (by decide) (fun c59 => ?_) (fun c59 => ?_)
          · skip
            have c59 : ¬ ((G 32 k) = ((2 : Nat) : Int)) := fun z9 => c59 ((cmp_eq (zI_toInt (by omega) (by omega)) (nI_toInt (by omega))).mpr z9)
            refine lv_iconst (v := nI 0) hx hb dX10_userOf_102 (by decide) ?_
            exact LLq103 0 (by omega) _ _ _ hG (lv_sub hl [0, 1, 2, 3, 4, 5] rfl)
          · skip
            have c59 : (G 32 k) = ((2 : Nat) : Int) := (cmp_eq (zI_toInt (by omega) (by omega)) (nI_toInt (by omega))).mp c59
            refine lv_iload_n hx hb dX10_userOf_62 rfl (lv_at hl 3 rfl) ?_
            refine lv_bipush (v := nI 24) hx hb dX10_userOf_63 (by decide) ?_
            refine lv_aload_n hx hb dX10_userOf_65 rfl (lv_at hl 1 rfl) ?_
            refine g_get (C := RX10) (T := TX10) (NN := 35) (ci := 10) hx hb hts hinX10 hown hE hG (k := 28) (by omega) rfl rfl 6 (by decide) (hts (.fieldLink RX10 25 "CommutatorModel" "offset" "[I") (List.mem_of_getElem? (i := 2) rfl)) rfl (v := .ref (ad 34)) rfl dX10_userOf_66 ?_
            refine lv_iload hx hb dX10_userOf_69 (lv_at hl 5 rfl) ?_
            refine g_iald hx hb hE hG (k := 34) (by omega) rfl k (rfl) (by omega) (by omega) dX10_userOf_71 ?_
            refine g_top (y := zI (G 34 k)) (hM.2 34 k (by omega) (by omega)) ?_
            refine lv_iadd hx hb dX10_userOf_72 ?_
            refine g_top (y := zI (24 + (G 34 k))) (zI_add_ni _ _) ?_
            refine lv_icmp_lt (tgt := 102) hx hb dX10_userOf_73 (by decide) (fun c73 => ?_) (fun c73 => ?_)
            · skip
              have c73 : b < (24 + (G 34 k)) := (cmp_lt (zI_toInt (by omega) (by omega)) (zI_toInt (by omega) (by omega))).mp c73
              refine lv_iconst (v := nI 0) hx hb dX10_userOf_102 (by decide) ?_
              exact LLq103 0 (by omega) _ _ _ hG (lv_sub hl [0, 1, 2, 3, 4, 5] rfl)
            · skip
              have c73 : ¬ (b < (24 + (G 34 k))) := fun z9 => c73 ((cmp_lt (zI_toInt (by omega) (by omega)) (zI_toInt (by omega) (by omega))).mpr z9)
              refine lv_iload_n hx hb dX10_userOf_76 rfl (lv_at hl 3 rfl) ?_
              refine lv_bipush (v := nI 24) hx hb dX10_userOf_77 (by decide) ?_
              refine lv_aload_n hx hb dX10_userOf_79 rfl (lv_at hl 1 rfl) ?_
              refine g_get (C := RX10) (T := TX10) (NN := 35) (ci := 10) hx hb hts hinX10 hown hE hG (k := 28) (by omega) rfl rfl 6 (by decide) (hts (.fieldLink RX10 25 "CommutatorModel" "offset" "[I") (List.mem_of_getElem? (i := 2) rfl)) rfl (v := .ref (ad 34)) rfl dX10_userOf_80 ?_
              refine lv_iload hx hb dX10_userOf_83 (lv_at hl 5 rfl) ?_
              refine g_iald hx hb hE hG (k := 34) (by omega) rfl k (rfl) (by omega) (by omega) dX10_userOf_85 ?_
              refine g_top (y := zI (G 34 k)) (hM.2 34 k (by omega) (by omega)) ?_
              refine lv_iadd hx hb dX10_userOf_86 ?_
              refine g_top (y := zI (24 + (G 34 k))) (zI_add_ni _ _) ?_
              refine lv_aload_n hx hb dX10_userOf_87 rfl (lv_at hl 1 rfl) ?_
              refine g_get (C := RX10) (T := TX10) (NN := 35) (ci := 10) hx hb hts hinX10 hown hE hG (k := 28) (by omega) rfl rfl 1 (by decide) (hts (.fieldLink RX10 7 "CommutatorModel" "width" "[I") (List.mem_of_getElem? (i := 3) rfl)) rfl (v := .ref (ad 29)) rfl dX10_userOf_88 ?_
              refine lv_iload hx hb dX10_userOf_91 (lv_at hl 5 rfl) ?_
              refine g_iald hx hb hE hG (k := 29) (by omega) rfl k (rfl) (by omega) (by omega) dX10_userOf_93 ?_
              refine g_top (y := zI (G 29 k)) (hM.2 29 k (by omega) (by omega)) ?_
              refine lv_iadd hx hb dX10_userOf_94 ?_
              refine g_top (y := zI ((24 + (G 34 k)) + (G 29 k))) (zI_add _ _) ?_
              refine lv_icmp_ge (tgt := 102) hx hb dX10_userOf_95 (by decide) (fun c95 => ?_) (fun c95 => ?_)
              · skip
                have c95 : ((24 + (G 34 k)) + (G 29 k)) ≤ b := (cmp_le (zI_toInt (by omega) (by omega)) (zI_toInt (by omega) (by omega))).mp c95
                refine lv_iconst (v := nI 0) hx hb dX10_userOf_102 (by decide) ?_
                exact LLq103 0 (by omega) _ _ _ hG (lv_sub hl [0, 1, 2, 3, 4, 5] rfl)
              · skip
                have c95 : ¬ (((24 + (G 34 k)) + (G 29 k)) ≤ b) := fun z9 => c95 ((cmp_le (zI_toInt (by omega) (by omega)) (zI_toInt (by omega) (by omega))).mpr z9)
                refine lv_iconst (v := nI 1) hx hb dX10_userOf_98 (by decide) ?_
                refine lv_goto (tgt := 103) hx hb dX10_userOf_99 (by decide) ?_
                exact LLq103 1 (by omega) _ _ _ hG (lv_sub hl [0, 1, 2, 3, 4, 5] rfl)
        refine lv_iload_n hx hb dX10_userOf_14 rfl (lv_at hl 2 rfl) ?_
        refine lv_aload_n hx hb dX10_userOf_15 rfl (lv_at hl 0 rfl) ?_
        refine g_get (C := RX10) (T := TX10) (NN := 35) (ci := 10) hx hb hts hinX10 hown hE hG (k := 28) (by omega) rfl rfl 6 (by decide) (hts (.fieldLink RX10 25 "CommutatorModel" "offset" "[I") (List.mem_of_getElem? (i := 2) rfl)) rfl (v := .ref (ad 34)) rfl dX10_userOf_16 ?_
        refine lv_iload hx hb dX10_userOf_19 (lv_at hl 4 rfl) ?_
        refine g_iald hx hb hE hG (k := 34) (by omega) rfl k (rfl) (by omega) (by omega) dX10_userOf_21 ?_
        refine g_top (y := zI (G 34 k)) (hM.2 34 k (by omega) (by omega)) ?_
        refine lv_icmp_lt (tgt := 48) hx hb dX10_userOf_22 (by decide) (fun c22 => ?_) (fun c22 => ?_)
        · skip
          have c22 : b < (G 34 k) := (cmp_lt (zI_toInt (by omega) (by omega)) (zI_toInt (by omega) (by omega))).mp c22
          refine lv_iconst (v := nI 0) hx hb dX10_userOf_48 (by decide) ?_
          exact LLq49 0 (by omega) _ _ _ hG (lv_sub hl [0, 1, 2, 3, 4] rfl)
        · skip
          have c22 : ¬ (b < (G 34 k)) := fun z9 => c22 ((cmp_lt (zI_toInt (by omega) (by omega)) (zI_toInt (by omega) (by omega))).mpr z9)
          refine lv_iload_n hx hb dX10_userOf_25 rfl (lv_at hl 2 rfl) ?_
          refine lv_aload_n hx hb dX10_userOf_26 rfl (lv_at hl 0 rfl) ?_
          refine g_get (C := RX10) (T := TX10) (NN := 35) (ci := 10) hx hb hts hinX10 hown hE hG (k := 28) (by omega) rfl rfl 6 (by decide) (hts (.fieldLink RX10 25 "CommutatorModel" "offset" "[I") (List.mem_of_getElem? (i := 2) rfl)) rfl (v := .ref (ad 34)) rfl dX10_userOf_27 ?_
          refine lv_iload hx hb dX10_userOf_30 (lv_at hl 4 rfl) ?_
          refine g_iald hx hb hE hG (k := 34) (by omega) rfl k (rfl) (by omega) (by omega) dX10_userOf_32 ?_
          refine g_top (y := zI (G 34 k)) (hM.2 34 k (by omega) (by omega)) ?_
          refine lv_aload_n hx hb dX10_userOf_33 rfl (lv_at hl 0 rfl) ?_
          refine g_get (C := RX10) (T := TX10) (NN := 35) (ci := 10) hx hb hts hinX10 hown hE hG (k := 28) (by omega) rfl rfl 1 (by decide) (hts (.fieldLink RX10 7 "CommutatorModel" "width" "[I") (List.mem_of_getElem? (i := 3) rfl)) rfl (v := .ref (ad 29)) rfl dX10_userOf_34 ?_
          refine lv_iload hx hb dX10_userOf_37 (lv_at hl 4 rfl) ?_
          refine g_iald hx hb hE hG (k := 29) (by omega) rfl k (rfl) (by omega) (by omega) dX10_userOf_39 ?_
          refine g_top (y := zI (G 29 k)) (hM.2 29 k (by omega) (by omega)) ?_
          refine lv_iadd hx hb dX10_userOf_40 ?_
          refine g_top (y := zI ((G 34 k) + (G 29 k))) (zI_add _ _) ?_
          refine lv_icmp_ge (tgt := 48) hx hb dX10_userOf_41 (by decide) (fun c41 => ?_) (fun c41 => ?_)
          · skip
            have c41 : ((G 34 k) + (G 29 k)) ≤ b := (cmp_le (zI_toInt (by omega) (by omega)) (zI_toInt (by omega) (by omega))).mp c41
            refine lv_iconst (v := nI 0) hx hb dX10_userOf_48 (by decide) ?_
            exact LLq49 0 (by omega) _ _ _ hG (lv_sub hl [0, 1, 2, 3, 4] rfl)
          · skip
            have c41 : ¬ (((G 34 k) + (G 29 k)) ≤ b) := fun z9 => c41 ((cmp_le (zI_toInt (by omega) (by omega)) (zI_toInt (by omega) (by omega))).mpr z9)
            refine lv_iconst (v := nI 1) hx hb dX10_userOf_44 (by decide) ?_
            refine lv_goto (tgt := 49) hx hb dX10_userOf_45 (by decide) ?_
            exact LLq49 1 (by omega) _ _ _ hG (lv_sub hl [0, 1, 2, 3, 4] rfl)
  exact LLq5 _ 0 (by omega) (Nat.lt_succ_self _) _ _ _ hG (lv_sub hl [2, 3, 4, 1, 0] rfl)
