abbrev PX5_at (ad : Nat → Nat) (A : Nat → Nat → Int32) (J : Nat → Nat → Int64) (nq : Nat) (zq : Int) : Option Value → (Nat → Nat → Int32) → (Nat → Nat → Int64) → Prop := fun v_ A1 J1 => (∃ (iq : Nat), v_ = some (.ref (ad (33 + 2 * iq))) ∧ A = A1 ∧ J = J1 ∧ (iq < nq ∧ zq = (iq : Int))) ∨ (v_ = some (.null) ∧ A = A1 ∧ J = J1 ∧ (¬ (0 ≤ zq ∧ zq < (nq : Int))))
set_option maxHeartbeats 4000000 in
set_option maxRecDepth 100000 in
theorem cX5_atC (l : Launch) (D : va_G) (cy : Nat → ClassId) (base : Nat) (ad : Nat → Nat) (n : Nat) (A : Nat → Nat → Int32) (J : Nat → Nat → Int64) (nq : Nat) (zq : Int) (hct : A 1 1 = nI n ∧ n ≤ 12) (hnq : nq = n) (hzq : -2147483648 ≤ zq ∧ zq < 2147483648) : gMet l yX5_at wsX5_at ({ frames := 0, cells := 0, slots := 0, locals := 0 } : Room) D cy base ad n A J [.ref (ad 1), .int (zI zq)] (PX5_at ad A J nq zq) := by
  refine g_ofW (cc := cX5_at) (maxL := 2) (ret := (some (.object "Commutator$Point"))) (by decide) rfl (Nat.le_of_ble_eq_true rfl) ?_
  intro pM eM sM mM aM bM methM cM H locs ls hx hb hr hts hown hlocks hml hE hG hl
  have hl : lv_has ls 2 [(0, .ref (ad 1)), (1, .int (zI zq))] := hl
  have hinX5 : ∀ w ∈ u_ws RX5 TX5 3, w ∈ wsX5_at := by decide +kernel
  refine lv_iload_n hx hb dX5_at_0 rfl (lv_at hl 1 rfl) ?_
  refine lv_if_lt (tgt := 21) hx hb dX5_at_1 (by decide) (fun c1 => ?_) (fun c1 => ?_)
  · skip
    have c1 : (zI zq) < nI 0 := c1
    have c1 : zq < ((0 : Nat) : Int) := (cmp_lt (zI_toInt (by omega) (by omega)) (nI_toInt (by omega))).mp c1
    refine lv_null hx hb dX5_at_21 ?_
    exact g_aret hx hb hr hlocks (Or.inl rfl) hG (Or.inr ⟨rfl, rfl, rfl, by omega⟩) dX5_at_22
  · skip
    have c1 : ¬ ((zI zq) < nI 0) := c1
    have c1 : ¬ (zq < ((0 : Nat) : Int)) := fun z9 => c1 ((cmp_lt (zI_toInt (by omega) (by omega)) (nI_toInt (by omega))).mpr z9)
    refine lv_iload_n hx hb dX5_at_4 rfl (lv_at hl 1 rfl) ?_
    refine lv_aload_n hx hb dX5_at_5 rfl (lv_at hl 0 rfl) ?_
    refine g_get (C := RX5) (T := TX5) (NN := 3) (ci := 5) hx hb hts hinX5 hown hE hG (k := 1) (by omega) rfl rfl 1 (by decide) (hts (.fieldLink RX5 21 "Commutator$PointTable" "count" "I") (List.mem_of_getElem? (i := 1) rfl)) rfl (v := .int (A 1 1)) rfl dX5_at_6 ?_
    refine g_top (y := nI n) (hct.1) ?_
    refine lv_icmp_ge (tgt := 21) hx hb dX5_at_9 (by decide) (fun c9 => ?_) (fun c9 => ?_)
    · skip
      have c9 : ((n : Nat) : Int) ≤ zq := (cmp_le (nI_toInt (by omega)) (zI_toInt (by omega) (by omega))).mp c9
      refine lv_null hx hb dX5_at_21 ?_
      exact g_aret hx hb hr hlocks (Or.inl rfl) hG (Or.inr ⟨rfl, rfl, rfl, by omega⟩) dX5_at_22
    · skip
      have c9 : ¬ (((n : Nat) : Int) ≤ zq) := fun z9 => c9 ((cmp_le (nI_toInt (by omega)) (zI_toInt (by omega) (by omega))).mpr z9)
      refine lv_aload_n hx hb dX5_at_12 rfl (lv_at hl 0 rfl) ?_
      refine g_get (C := RX5) (T := TX5) (NN := 3) (ci := 5) hx hb hts hinX5 hown hE hG (k := 1) (by omega) rfl rfl 0 (by decide) (hts (.fieldLink RX5 11 "Commutator$PointTable" "rows" "[LCommutator$Point;") (List.mem_of_getElem? (i := 2) rfl)) rfl (v := .ref (ad 2)) rfl dX5_at_13 ?_
      refine lv_iload_n hx hb dX5_at_16 rfl (lv_at hl 1 rfl) ?_
      obtain ⟨iq, rfl⟩ : ∃ iq : Nat, zq = (iq : Int) := ⟨zq.toNat, by omega⟩
      refine g_top (y := nI iq) (zI_n _) ?_
      refine g_aald hx hb hE hG (k := 2) (t0 := 4) (by omega) rfl rfl iq (rfl) (by omega) (by omega) dX5_at_17 (v := .ref (ad (33 + 2 * iq))) (by show va_rf (if iq < n then some (ad (33 + 2 * iq)) else none) = _; rw [if_pos (by omega)]; rfl) ?_
      refine lv_goto (tgt := 22) hx hb dX5_at_18 (by decide) ?_
      exact g_aret hx hb hr hlocks (Or.inr ⟨_, rfl⟩) hG (Or.inl ⟨iq, rfl, rfl, rfl, by omega, rfl⟩) dX5_at_22

abbrev PX5_at_in (ad : Nat → Nat) (A : Nat → Nat → Int32) (J : Nat → Nat → Int64) (iq : Nat) : Option Value → (Nat → Nat → Int32) → (Nat → Nat → Int64) → Prop := fun v_ A1 J1 => (v_ = some (.ref (ad (33 + 2 * iq))) ∧ A = A1 ∧ J = J1)
set_option maxHeartbeats 4000000 in
set_option maxRecDepth 100000 in
theorem cX5_at_inC (l : Launch) (D : va_G) (cy : Nat → ClassId) (base : Nat) (ad : Nat → Nat) (n : Nat) (A : Nat → Nat → Int32) (J : Nat → Nat → Int64) (iq : Nat) (hct : A 1 1 = nI n ∧ n ≤ 12) (hiq : iq < n) : gMet l yX5_at wsX5_at ({ frames := 0, cells := 0, slots := 0, locals := 0 } : Room) D cy base ad n A J [.ref (ad 1), .int (nI iq)] (PX5_at_in ad A J iq) := by
  refine g_ofW (cc := cX5_at) (maxL := 2) (ret := (some (.object "Commutator$Point"))) (by decide) rfl (Nat.le_of_ble_eq_true rfl) ?_
  intro pM eM sM mM aM bM methM cM H locs ls hx hb hr hts hown hlocks hml hE hG hl
  have hl : lv_has ls 2 [(0, .ref (ad 1)), (1, .int (nI iq))] := hl
  have hinX5 : ∀ w ∈ u_ws RX5 TX5 3, w ∈ wsX5_at := by decide +kernel
  refine lv_iload_n hx hb dX5_at_0 rfl (lv_at hl 1 rfl) ?_
  refine lv_if_lt (tgt := 21) hx hb dX5_at_1 (by decide) (fun c1 => ?_) (fun c1 => ?_)
  · skip
    have c1 : (nI iq) < nI 0 := c1
    have c1 : iq < 0 := (nI_ltI (by omega) (by omega)).mp c1
    exfalso; omega
  · skip
    have c1 : ¬ ((nI iq) < nI 0) := c1
    have c1 : ¬ (iq < 0) := fun z9 => c1 ((nI_ltI (by omega) (by omega)).mpr z9)
    refine lv_iload_n hx hb dX5_at_4 rfl (lv_at hl 1 rfl) ?_
    refine lv_aload_n hx hb dX5_at_5 rfl (lv_at hl 0 rfl) ?_
    refine g_get (C := RX5) (T := TX5) (NN := 3) (ci := 5) hx hb hts hinX5 hown hE hG (k := 1) (by omega) rfl rfl 1 (by decide) (hts (.fieldLink RX5 21 "Commutator$PointTable" "count" "I") (List.mem_of_getElem? (i := 1) rfl)) rfl (v := .int (A 1 1)) rfl dX5_at_6 ?_
    refine g_top (y := nI n) (hct.1) ?_
    refine lv_icmp_ge (tgt := 21) hx hb dX5_at_9 (by decide) (fun c9 => ?_) (fun c9 => ?_)
    · skip
      have c9 : n ≤ iq := (nI_leI (by omega) (by omega)).mp c9
      exfalso; omega
    · skip
      have c9 : ¬ (n ≤ iq) := fun z9 => c9 ((nI_leI (by omega) (by omega)).mpr z9)
      refine lv_aload_n hx hb dX5_at_12 rfl (lv_at hl 0 rfl) ?_
      refine g_get (C := RX5) (T := TX5) (NN := 3) (ci := 5) hx hb hts hinX5 hown hE hG (k := 1) (by omega) rfl rfl 0 (by decide) (hts (.fieldLink RX5 11 "Commutator$PointTable" "rows" "[LCommutator$Point;") (List.mem_of_getElem? (i := 2) rfl)) rfl (v := .ref (ad 2)) rfl dX5_at_13 ?_
      refine lv_iload_n hx hb dX5_at_16 rfl (lv_at hl 1 rfl) ?_
      refine g_aald hx hb hE hG (k := 2) (t0 := 4) (by omega) rfl rfl iq (rfl) (by omega) (by omega) dX5_at_17 (v := .ref (ad (33 + 2 * iq))) (by show va_rf (if iq < n then some (ad (33 + 2 * iq)) else none) = _; rw [if_pos (by omega)]; rfl) ?_
      refine lv_goto (tgt := 22) hx hb dX5_at_18 (by decide) ?_
      exact g_aret hx hb hr hlocks (Or.inr ⟨_, rfl⟩) hG ⟨rfl, rfl, rfl⟩ dX5_at_22

abbrev PX5_bitsAt (ad : Nat → Nat) (A : Nat → Nat → Int32) (J : Nat → Nat → Int64) (oq wq tq : Nat) : Option Value → (Nat → Nat → Int32) → (Nat → Nat → Int64) → Prop := fun v_ A1 J1 => (v_ = some (.long (gBt oq wq tq)) ∧ A = A1 ∧ J = J1)
set_option maxHeartbeats 4000000 in
set_option maxRecDepth 100000 in
theorem cX5_bitsAtC (l : Launch) (D : va_G) (cy : Nat → ClassId) (base : Nat) (ad : Nat → Nat) (n : Nat) (A : Nat → Nat → Int32) (J : Nat → Nat → Int64) (oq wq tq : Nat) (hbw : wq ≤ 12) (hbo : oq + wq ≤ 48) (hbt : tq = 0 ∨ (tq = 1 ∧ oq + wq ≤ 24)) : gMet l yX5_bitsAt wsX5_bitsAt ({ frames := 0, cells := 0, slots := 0, locals := 0 } : Room) D cy base ad n A J [.int (nI oq), .int (nI wq), .int (nI tq)] (PX5_bitsAt ad A J oq wq tq) := by
  refine g_ofW (cc := cX5_bitsAt) (maxL := 5) (ret := (some .long)) (by decide) rfl (Nat.le_of_ble_eq_true rfl) ?_
  intro pM eM sM mM aM bM methM cM H locs ls hx hb hr hts hown hlocks hml hE hG hl
  have hl : lv_has ls 5 [(0, .int (nI oq)), (1, .int (nI wq)), (2, .int (nI tq))] := hl
  refine lv_lconst (v := 1) hx hb dX5_bitsAt_0 (by decide) ?_
  refine lv_iload_n hx hb dX5_bitsAt_1 rfl (lv_at hl 1 rfl) ?_
  refine lv_lshl (v := gshl 1 (nI wq)) hx hb dX5_bitsAt_2 rfl ?_
  refine lv_lconst (v := 1) hx hb dX5_bitsAt_3 (by decide) ?_
  refine lv_lsub hx hb dX5_bitsAt_4 ?_
  refine lv_iload_n hx hb dX5_bitsAt_5 rfl (lv_at hl 0 rfl) ?_
  refine lv_lshl (v := gshl ((gshl 1 (nI wq)) - 1) (nI oq)) hx hb dX5_bitsAt_6 rfl ?_
  refine lv_lstore_n (lv' := [(3, .long (gshl ((gshl 1 (nI wq)) - 1) (nI oq))), (0, .int (nI oq)), (1, .int (nI wq)), (2, .int (nI tq))]) hx hb dX5_bitsAt_7 rfl hl (by decide) rfl (fun ls hl => ?_)
  refine lv_iload_n hx hb dX5_bitsAt_8 rfl (lv_at hl 3 rfl) ?_
  refine lv_if_eq (tgt := 21) hx hb dX5_bitsAt_9 (by decide) (fun c9 => ?_) (fun c9 => ?_)
  · skip
    have c9 : (nI tq) = nI 0 := c9
    have c9 : tq = 0 := (nI_eq (by omega) (by omega)).mp c9
    refine lv_lload_n hx hb dX5_bitsAt_21 rfl (lv_at hl 0 rfl) ?_
    exact g_lret hx hb hr hlocks hG ⟨congrArg (fun q9 => some (Value.long q9)) (by unfold gBt gBt1; first | rw [if_pos (by omega)] | rw [if_neg (by omega)]), rfl, rfl⟩ dX5_bitsAt_22
  · skip
    have c9 : ¬ ((nI tq) = nI 0) := c9
    have c9 : ¬ (tq = 0) := fun z9 => c9 ((nI_eq (by omega) (by omega)).mpr z9)
    refine lv_lload_n hx hb dX5_bitsAt_12 rfl (lv_at hl 0 rfl) ?_
    refine lv_lload_n hx hb dX5_bitsAt_13 rfl (lv_at hl 0 rfl) ?_
    refine lv_bipush (v := nI 24) hx hb dX5_bitsAt_14 (by decide) ?_
    refine lv_lshl (v := gshl (gshl ((gshl 1 (nI wq)) - 1) (nI oq)) (nI 24)) hx hb dX5_bitsAt_16 rfl ?_
    refine lv_lor hx hb dX5_bitsAt_17 ?_
    refine lv_goto (tgt := 22) hx hb dX5_bitsAt_18 (by decide) ?_
    exact g_lret hx hb hr hlocks hG ⟨congrArg (fun q9 => some (Value.long q9)) (by unfold gBt gBt1; first | rw [if_pos (by omega)] | rw [if_neg (by omega)]), rfl, rfl⟩ dX5_bitsAt_22

abbrev PX5_isFree (ad : Nat → Nat) (A : Nat → Nat → Int32) (J : Nat → Nat → Int64) (bq : Int64) (peq phq : Int) : Option Value → (Nat → Nat → Int32) → (Nat → Nat → Int64) → Prop := fun v_ A1 J1 => (v_ = some (.int (nI 1)) ∧ A = A1 ∧ J = J1 ∧ (gFreeQ J bq peq phq)) ∨ (v_ = some (.int (nI 0)) ∧ A = A1 ∧ J = J1 ∧ (¬ (gFreeQ J bq peq phq)))
set_option maxHeartbeats 4000000 in
set_option maxRecDepth 100000 in
theorem cX5_isFreeC (l : Launch) (D : va_G) (cy : Nat → ClassId) (base : Nat) (ad : Nat → Nat) (n : Nat) (A : Nat → Nat → Int32) (J : Nat → Nat → Int64) (bq : Int64) (peq phq : Int) (hpq : peq = 1 ∨ peq = 2 ∨ peq = 4) (hphq : 0 ≤ phq ∧ phq < peq) : gMet l yX5_isFree wsX5_isFree ({ frames := 0, cells := 0, slots := 0, locals := 0 } : Room) D cy base ad n A J [.ref (ad 1), .long bq, .int (zI peq), .int (zI phq)] (PX5_isFree ad A J bq peq phq) := by
  refine g_ofW (cc := cX5_isFree) (maxL := 6) (ret := (some .boolean)) (by decide) rfl (Nat.le_of_ble_eq_true rfl) ?_
  intro pM eM sM mM aM bM methM cM H locs ls hx hb hr hts hown hlocks hml hE hG hl
  have hl : lv_has ls 6 [(0, .ref (ad 1)), (1, .long bq), (3, .int (zI peq)), (4, .int (zI phq))] := hl
  have hinX5 : ∀ w ∈ u_ws RX5 TX5 3, w ∈ wsX5_isFree := by decide +kernel
  refine lv_iconst (v := nI 0) hx hb dX5_isFree_0 (by decide) ?_
  refine lv_istore (lv' := [(5, .int (nI 0)), (0, .ref (ad 1)), (1, .long bq), (3, .int (zI peq)), (4, .int (zI phq))]) hx hb dX5_isFree_1 hl (by decide) rfl (fun ls hl => ?_)
  have LLq3 : ∀ (fuel : Nat) (rq : Nat) (hrq : rq ≤ 4) (hfq : ∀ r : Nat, r < rq → (r : Int) % peq = phq → J 3 r &&& bq = 0) (_ : 4 - rq < fuel) (H : Heap) (locs : List Loc) (ls : Array Slot), gH D base sM ad (33 + 2 * n) (gw cy ad n A J) H locs → lv_has ls 6 [(5, .int (nI rq)), (0, .ref (ad 1)), (1, .long bq), (3, .int (zI peq)), (4, .int (zI phq))] → W pM l eM ({ frames := 0, cells := 0, slots := 0, locals := 0 } : Room) sM mM aM bM methM cM H locs 0 0 (MQ bM (gPost D cy base ad n (PX5_isFree ad A J bq peq phq)) aM sM 0 0 (fun q => base ≤ q)) (F0 mM 3 ls []) := by
    intro fuel
    induction fuel with
    | zero => intro rq hrq hfq hms H locs ls hG hl; exact absurd hms (Nat.not_lt_zero _)
    | succ fuel ihq3 =>
      intro rq hrq hfq hms H locs ls hG hl
      refine lv_iload hx hb dX5_isFree_3 (lv_at hl 0 rfl) ?_
      refine lv_iconst (v := nI 4) hx hb dX5_isFree_5 (by decide) ?_
      refine lv_icmp_ge (tgt := 42) hx hb dX5_isFree_6 (by decide) (fun c6 => ?_) (fun c6 => ?_)
      · skip
        have c6 : 4 ≤ rq := (nI_leI (by omega) (by omega)).mp c6
        refine lv_iconst (v := nI 1) hx hb dX5_isFree_42 (by decide) ?_
        exact g_zret hx hb hr hlocks hG rfl (Or.inl ⟨rfl, rfl, rfl, fun r h9 h8 => hfq r (by omega) h8⟩) dX5_isFree_43
      · skip
        have c6 : ¬ (4 ≤ rq) := fun z9 => c6 ((nI_leI (by omega) (by omega)).mpr z9)
        refine lv_iload hx hb dX5_isFree_9 (lv_at hl 0 rfl) ?_
        refine lv_iload_n hx hb dX5_isFree_11 rfl (lv_at hl 3 rfl) ?_
        refine lv_iconst (v := nI 1) hx hb dX5_isFree_12 (by decide) ?_
        refine lv_isub hx hb dX5_isFree_13 ?_
        refine g_top (y := zI (peq - 1)) (zI_sub_in _ _) ?_
        have hm1 := Int.emod_nonneg ((rq : Nat) : Int) (show peq ≠ 0 by omega)
        have hm2 := Int.emod_lt_of_pos ((rq : Nat) : Int) (show 0 < peq by omega)
        refine lv_iand hx hb dX5_isFree_14 ?_
        refine g_top (y := zI (((rq : Nat) : Int) % peq)) ((by rw [← zI_n]; exact z_andp (by omega) (by omega) hpq)) ?_
        refine lv_iload hx hb dX5_isFree_15 (lv_at hl 4 rfl) ?_
        refine lv_icmp_ne (tgt := 36) hx hb dX5_isFree_17 (by decide) (fun c17 => ?_) (fun c17 => ?_)
        · skip
          have c17 : ¬ ((((rq : Nat) : Int) % peq) = phq) := fun z9 => c17 ((cmp_eq (zI_toInt (by omega) (by omega)) (zI_toInt (by omega) (by omega))).mpr z9)
          have hfq1 : ∀ r : Nat, r < rq + 1 → (r : Int) % peq = phq → J 3 r &&& bq = 0 := fun r h9 h8 => by
            rcases Nat.lt_succ_iff_lt_or_eq.mp h9 with h7 | rfl
            · exact hfq r h7 h8
            · exact absurd h8 c17
          refine lv_iinc (v := nI (rq + 1)) (lv' := [(5, .int (nI (rq + 1))), (0, .ref (ad 1)), (1, .long bq), (3, .int (zI peq)), (4, .int (zI phq))]) hx hb dX5_isFree_36 hl (k := 0) rfl (by rw [show (Int32.ofInt 1 : Int32) = nI 1 from rfl, nI_add]) (by decide) rfl (fun ls hl => ?_)
          refine lv_goto (tgt := 3) hx hb dX5_isFree_39 (by decide) ?_
          exact ihq3 (rq + 1) (by omega) hfq1 (by omega) _ _ _ hG (lv_sub hl [0, 1, 2, 3, 4] rfl)
        · skip
          have c17 : (((rq : Nat) : Int) % peq) = phq := (cmp_eq (zI_toInt (by omega) (by omega)) (zI_toInt (by omega) (by omega))).mp c17
          refine lv_aload_n hx hb dX5_isFree_20 rfl (lv_at hl 1 rfl) ?_
          refine g_get (C := RX5) (T := TX5) (NN := 3) (ci := 5) hx hb hts hinX5 hown hE hG (k := 1) (by omega) rfl rfl 2 (by decide) (hts (.fieldLink RX5 17 "Commutator$PointTable" "usedBits" "[J") (List.mem_of_getElem? (i := 1) rfl)) rfl (v := .ref (ad 3)) rfl dX5_isFree_21 ?_
          refine lv_iload hx hb dX5_isFree_24 (lv_at hl 0 rfl) ?_
          refine g_lald hx hb hE hG (k := 3) (by omega) rfl rq (rfl) (by omega) (by omega) dX5_isFree_26 ?_
          refine lv_lload_n hx hb dX5_isFree_27 rfl (lv_at hl 2 rfl) ?_
          refine lv_land hx hb dX5_isFree_28 ?_
          refine lv_lconst (v := 0) hx hb dX5_isFree_29 (by decide) ?_
          refine W.lcmp hx hb dX5_isFree_30 ?_
          refine lv_if_eq (tgt := 36) hx hb dX5_isFree_31 (by decide) (fun c31 => ?_) (fun c31 => ?_)
          · skip
            have c31 : ((J 3 rq) &&& bq) = 0 := (lg_cmp_eq _ _).mp c31
            have hfq1 : ∀ r : Nat, r < rq + 1 → (r : Int) % peq = phq → J 3 r &&& bq = 0 := fun r h9 h8 => by
              rcases Nat.lt_succ_iff_lt_or_eq.mp h9 with h7 | rfl
              · exact hfq r h7 h8
              · exact c31
            refine lv_iinc (v := nI (rq + 1)) (lv' := [(5, .int (nI (rq + 1))), (0, .ref (ad 1)), (1, .long bq), (3, .int (zI peq)), (4, .int (zI phq))]) hx hb dX5_isFree_36 hl (k := 0) rfl (by rw [show (Int32.ofInt 1 : Int32) = nI 1 from rfl, nI_add]) (by decide) rfl (fun ls hl => ?_)
            refine lv_goto (tgt := 3) hx hb dX5_isFree_39 (by decide) ?_
            exact ihq3 (rq + 1) (by omega) hfq1 (by omega) _ _ _ hG (lv_sub hl [0, 1, 2, 3, 4] rfl)
          · skip
            have c31 : ¬ (((J 3 rq) &&& bq) = 0) := fun z9 => c31 ((lg_cmp_eq _ _).mpr z9)
            refine lv_iconst (v := nI 0) hx hb dX5_isFree_34 (by decide) ?_
            exact g_zret hx hb hr hlocks hG rfl (Or.inr ⟨rfl, rfl, rfl, fun h9 => absurd (h9 rq (by omega) (by omega)) c31⟩) dX5_isFree_35
  exact LLq3 _ 0 (by omega) (fun r h9 => absurd h9 (Nat.not_lt_zero _)) (Nat.lt_succ_self _) _ _ _ hG (lv_sub hl [0, 1, 2, 3, 4] rfl)

abbrev PX5_use (ad : Nat → Nat) (A : Nat → Nat → Int32) (J : Nat → Nat → Int64) (bq : Int64) (peq phq : Int) : Option Value → (Nat → Nat → Int32) → (Nat → Nat → Int64) → Prop := fun v_ A1 J1 => (v_ = none ∧ A = A1 ∧ gUse J bq peq phq 4 = J1)
set_option maxHeartbeats 4000000 in
set_option maxRecDepth 100000 in
theorem cX5_useC (l : Launch) (D : va_G) (cy : Nat → ClassId) (base : Nat) (ad : Nat → Nat) (n : Nat) (A : Nat → Nat → Int32) (J : Nat → Nat → Int64) (bq : Int64) (peq phq : Int) (hpq : peq = 1 ∨ peq = 2 ∨ peq = 4) (hphq : 0 ≤ phq ∧ phq < peq) : gMet l yX5_use wsX5_use ({ frames := 0, cells := 0, slots := 0, locals := 0 } : Room) D cy base ad n A J [.ref (ad 1), .long bq, .int (zI peq), .int (zI phq)] (PX5_use ad A J bq peq phq) := by
  refine g_ofW (cc := cX5_use) (maxL := 6) (ret := none) (by decide) rfl (Nat.le_of_ble_eq_true rfl) ?_
  intro pM eM sM mM aM bM methM cM H locs ls hx hb hr hts hown hlocks hml hE hG hl
  have hl : lv_has ls 6 [(0, .ref (ad 1)), (1, .long bq), (3, .int (zI peq)), (4, .int (zI phq))] := hl
  have hinX5 : ∀ w ∈ u_ws RX5 TX5 3, w ∈ wsX5_use := by decide +kernel
  have hGq : gw cy ad n A J = gw cy ad n A (gUse J bq peq phq 0) := by rw [gUse_0]
  refine lv_iconst (v := nI 0) hx hb dX5_use_0 (by decide) ?_
  refine lv_istore (lv' := [(5, .int (nI 0)), (0, .ref (ad 1)), (1, .long bq), (3, .int (zI peq)), (4, .int (zI phq))]) hx hb dX5_use_1 hl (by decide) rfl (fun ls hl => ?_)
  have LLq3 : ∀ (fuel : Nat) (rq : Nat) (hrq : rq ≤ 4) (_ : 4 - rq < fuel) (H : Heap) (locs : List Loc) (ls : Array Slot), gH D base sM ad (33 + 2 * n) (gw cy ad n A (gUse J bq peq phq rq)) H locs → lv_has ls 6 [(5, .int (nI rq)), (0, .ref (ad 1)), (1, .long bq), (3, .int (zI peq)), (4, .int (zI phq))] → W pM l eM ({ frames := 0, cells := 0, slots := 0, locals := 0 } : Room) sM mM aM bM methM cM H locs 0 0 (MQ bM (gPost D cy base ad n (PX5_use ad A J bq peq phq)) aM sM 0 0 (fun q => base ≤ q)) (F0 mM 3 ls []) := by
    intro fuel
    induction fuel with
    | zero => intro rq hrq hms H locs ls hG hl; exact absurd hms (Nat.not_lt_zero _)
    | succ fuel ihq3 =>
      intro rq hrq hms H locs ls hG hl
      refine lv_iload hx hb dX5_use_3 (lv_at hl 0 rfl) ?_
      refine lv_iconst (v := nI 4) hx hb dX5_use_5 (by decide) ?_
      refine lv_icmp_ge (tgt := 37) hx hb dX5_use_6 (by decide) (fun c6 => ?_) (fun c6 => ?_)
      · skip
        have c6 : 4 ≤ rq := (nI_leI (by omega) (by omega)).mp c6
        exact g_vret hx hb hr hlocks hG ⟨rfl, rfl, by rw [show rq = 4 from by omega]⟩ dX5_use_37
      · skip
        have c6 : ¬ (4 ≤ rq) := fun z9 => c6 ((nI_leI (by omega) (by omega)).mpr z9)
        refine lv_iload hx hb dX5_use_9 (lv_at hl 0 rfl) ?_
        refine lv_iload_n hx hb dX5_use_11 rfl (lv_at hl 3 rfl) ?_
        refine lv_iconst (v := nI 1) hx hb dX5_use_12 (by decide) ?_
        refine lv_isub hx hb dX5_use_13 ?_
        refine g_top (y := zI (peq - 1)) (zI_sub_in _ _) ?_
        have hm1 := Int.emod_nonneg ((rq : Nat) : Int) (show peq ≠ 0 by omega)
        have hm2 := Int.emod_lt_of_pos ((rq : Nat) : Int) (show 0 < peq by omega)
        refine lv_iand hx hb dX5_use_14 ?_
        refine g_top (y := zI (((rq : Nat) : Int) % peq)) ((by rw [← zI_n]; exact z_andp (by omega) (by omega) hpq)) ?_
        refine lv_iload hx hb dX5_use_15 (lv_at hl 4 rfl) ?_
        refine lv_icmp_ne (tgt := 31) hx hb dX5_use_17 (by decide) (fun c17 => ?_) (fun c17 => ?_)
        · skip
          have c17 : ¬ ((((rq : Nat) : Int) % peq) = phq) := fun z9 => c17 ((cmp_eq (zI_toInt (by omega) (by omega)) (zI_toInt (by omega) (by omega))).mpr z9)
          have hGq : gw cy ad n A (gUse J bq peq phq rq) = gw cy ad n A (gUse J bq peq phq (rq + 1)) := by rw [gUse_n c17]
          refine lv_iinc (v := nI (rq + 1)) (lv' := [(5, .int (nI (rq + 1))), (0, .ref (ad 1)), (1, .long bq), (3, .int (zI peq)), (4, .int (zI phq))]) hx hb dX5_use_31 hl (k := 0) rfl (by rw [show (Int32.ofInt 1 : Int32) = nI 1 from rfl, nI_add]) (by decide) rfl (fun ls hl => ?_)
          refine lv_goto (tgt := 3) hx hb dX5_use_34 (by decide) ?_
          exact ihq3 (rq + 1) (by omega) (by omega) _ _ _ (hG.to (fun k => by rw [hGq])) (lv_sub hl [0, 1, 2, 3, 4] rfl)
        · skip
          have c17 : (((rq : Nat) : Int) % peq) = phq := (cmp_eq (zI_toInt (by omega) (by omega)) (zI_toInt (by omega) (by omega))).mp c17
          have hGq : gw cy ad n A (gu (gUse J bq peq phq rq) 3 rq (gUse J bq peq phq rq 3 rq ||| bq)) = gw cy ad n A (gUse J bq peq phq (rq + 1)) := by rw [gUse_y (by omega)]
          refine lv_aload_n hx hb dX5_use_20 rfl (lv_at hl 1 rfl) ?_
          refine g_get (C := RX5) (T := TX5) (NN := 3) (ci := 5) hx hb hts hinX5 hown hE hG (k := 1) (by omega) rfl rfl 2 (by decide) (hts (.fieldLink RX5 17 "Commutator$PointTable" "usedBits" "[J") (List.mem_of_getElem? (i := 1) rfl)) rfl (v := .ref (ad 3)) rfl dX5_use_21 ?_
          refine lv_iload hx hb dX5_use_24 (lv_at hl 0 rfl) ?_
          refine lv_dup2_11 hx hb dX5_use_26 rfl rfl ?_
          refine g_lald hx hb hE hG (k := 3) (by omega) rfl rq (rfl) (by omega) (by omega) dX5_use_27 ?_
          refine g_topl (y := gUse J bq peq phq rq 3 rq) (by first | rfl | simp only [gu_at]; simp) ?_
          refine lv_lload_n hx hb dX5_use_28 rfl (lv_at hl 2 rfl) ?_
          refine lv_lor hx hb dX5_use_29 ?_
          refine g_last hx hb hE hG (k := 3) (by omega) (fun _ => rfl) rq (rfl) (by omega) (by omega) dX5_use_30 (fun H locs hG => ?_)
          refine lv_iinc (v := nI (rq + 1)) (lv' := [(5, .int (nI (rq + 1))), (0, .ref (ad 1)), (1, .long bq), (3, .int (zI peq)), (4, .int (zI phq))]) hx hb dX5_use_31 hl (k := 0) rfl (by rw [show (Int32.ofInt 1 : Int32) = nI 1 from rfl, nI_add]) (by decide) rfl (fun ls hl => ?_)
          refine lv_goto (tgt := 3) hx hb dX5_use_34 (by decide) ?_
          exact ihq3 (rq + 1) (by omega) (by omega) _ _ _ (hG.to (fun k => by rw [hGq])) (lv_sub hl [0, 1, 2, 3, 4] rfl)
  exact LLq3 _ 0 (by omega) (Nat.lt_succ_self _) _ _ _ (hG.to (fun k => by rw [hGq])) (lv_sub hl [0, 1, 2, 3, 4] rfl)
