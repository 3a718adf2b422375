abbrev PX10_hasValue (ad : Nat → Nat) (A : Nat → Nat → Int32) (J : Nat → Nat → Int64) (G : Nat → Nat → Int) (oq : Int) : Option Value → (Nat → Nat → Int32) → (Nat → Nat → Int64) → Prop := fun v_ A1 J1 => (v_ = some (.int (nI 1)) ∧ A = A1 ∧ J = J1 ∧ (mHas G oq)) ∨ (v_ = some (.int (nI 0)) ∧ A = A1 ∧ J = J1 ∧ (¬ (mHas G oq)))
set_option maxHeartbeats 4000000 in
set_option maxRecDepth 100000 in
theorem cX10_hasValueC (l : Launch) (D : va_G) (cy : Nat → ClassId) (base : Nat) (ad : Nat → Nat) (n : Nat) (A : Nat → Nat → Int32) (J : Nat → Nat → Int64) (G : Nat → Nat → Int) (oq : Int) (hM : MRep A G) (hoq : isOp oq) (hdr : mDrOk G) (hn : 0 ≤ G 28 0 ∧ G 28 0 ≤ 12) (hs : ∀ j, 0 ≤ G 41 j ∧ G 41 j < 1000000) : gMet l yX10_hasValue wsX10_hasValue ({ frames := 0, cells := 0, slots := 0, locals := 0 } : Room) D cy base ad n A J [.ref (ad 28), .int (zI oq)] (PX10_hasValue ad A J G oq) := by
  refine g_ofW (cc := cX10_hasValue) (maxL := 2) (ret := (some .boolean)) (by decide) rfl (Nat.le_of_ble_eq_true rfl) ?_
  intro pM eM sM mM aM bM methM cM H locs ls hx hb hr hts hown hlocks hml hE hG hl
  have hl : lv_has ls 2 [(0, .ref (ad 28)), (1, .int (zI oq))] := hl
  have hinX10 : ∀ w ∈ u_ws RX10 TX10 35, w ∈ wsX10_hasValue := by decide +kernel
  have h46 := (hdr (oq - 100).toNat).1
  have h41 := hs oq.toNat
  have LLq40 : ∀  (bq : Nat) (hbq : (bq = 1 ∧ mHas G oq) ∨ (bq = 0 ∧ ¬ mHas G oq)) (H : Heap) (locs : List Loc) (ls : Array Slot), gH D base sM ad (50 + 2 * n) (gw cy ad n A J) H locs → lv_has ls 2 [(0, .ref (ad 28)), (1, .int (zI oq))] → W pM l eM ({ frames := 0, cells := 0, slots := 0, locals := 0 } : Room) sM mM aM bM methM cM H locs 0 0 (MQ bM (gPost D cy base ad n (PX10_hasValue ad A J G oq)) aM sM 0 0 (fun q => base ≤ q)) (F0 mM 40 ls [.int (nI bq)]) := by
    intro bq hbq H locs ls hG hl
    exact g_zret hx hb hr hlocks hG (by rcases hbq with h9 | h9 <;> rw [h9.1] <;> rfl) (hbq.elim (fun h9 => Or.inl ⟨by rw [h9.1], rfl, rfl, h9.2⟩) (fun h9 => Or.inr ⟨by rw [h9.1], rfl, rfl, h9.2⟩)) dX10_hasValue_40
  refine lv_iload_n hx hb dX10_hasValue_0 rfl (lv_at hl 1 rfl) ?_
  refine lv_bipush (v := nI 100) hx hb dX10_hasValue_1 (by decide) ?_
  refine lv_icmp_lt (tgt := 18) hx hb dX10_hasValue_3 (by decide) (fun c3 => ?_) (fun c3 => ?_)
  · skip
    have c3 : oq < ((100 : Nat) : Int) := (cmp_lt (zI_toInt (by omega) (by omega)) (nI_toInt (by omega))).mp c3
    refine lv_iload_n hx hb dX10_hasValue_18 rfl (lv_at hl 1 rfl) ?_
    refine lv_aload_n hx hb dX10_hasValue_19 rfl (lv_at hl 0 rfl) ?_
    refine g_get (C := RX10) (T := TX10) (NN := 35) (ci := 10) hx hb hts hinX10 hown hE hG (k := 28) (by omega) rfl rfl 0 (by decide) (hts (.fieldLink RX10 81 "CommutatorModel" "points" "I") (List.mem_of_getElem? (i := 2) rfl)) rfl (v := .int (A 28 0)) rfl dX10_hasValue_20 ?_
    refine g_top (y := zI (G 28 0)) (hM 28 0 (by omega) (by omega) (by omega)) ?_
    refine lv_icmp_ge (tgt := 39) hx hb dX10_hasValue_23 (by decide) (fun c23 => ?_) (fun c23 => ?_)
    · skip
      have c23 : (G 28 0) ≤ oq := (cmp_le (zI_toInt (by omega) (by omega)) (zI_toInt (by omega) (by omega))).mp c23
      refine lv_iconst (v := nI 0) hx hb dX10_hasValue_39 (by decide) ?_
      exact LLq40 0 (by unfold mHas; omega) _ _ _ hG (lv_sub hl [0, 1] rfl)
    · skip
      have c23 : ¬ ((G 28 0) ≤ oq) := fun z9 => c23 ((cmp_le (zI_toInt (by omega) (by omega)) (zI_toInt (by omega) (by omega))).mpr z9)
      refine lv_aload_n hx hb dX10_hasValue_26 rfl (lv_at hl 0 rfl) ?_
      refine g_get (C := RX10) (T := TX10) (NN := 35) (ci := 10) hx hb hts hinX10 hown hE hG (k := 28) (by omega) rfl rfl 26 (by decide) (hts (.fieldLink RX10 46 "CommutatorModel" "samples" "[I") (List.mem_of_getElem? (i := 3) rfl)) rfl (v := .ref (ad 41)) rfl dX10_hasValue_27 ?_
      refine lv_iload_n hx hb dX10_hasValue_30 rfl (lv_at hl 1 rfl) ?_
      refine g_iald hx hb hE hG (k := 41) (by omega) rfl oq.toNat (zI_nat (by omega)) (by omega) (by omega) dX10_hasValue_31 ?_
      refine g_top (y := zI (G 41 oq.toNat)) (hM 41 oq.toNat (by omega) (by omega) (by omega)) ?_
      refine lv_if_le (tgt := 39) hx hb dX10_hasValue_32 (by decide) (fun c32 => ?_) (fun c32 => ?_)
      · skip
        have c32 : (zI (G 41 oq.toNat)) ≤ nI 0 := c32
        have c32 : (G 41 oq.toNat) ≤ ((0 : Nat) : Int) := (cmp_le (zI_toInt (by omega) (by omega)) (nI_toInt (by omega))).mp c32
        refine lv_iconst (v := nI 0) hx hb dX10_hasValue_39 (by decide) ?_
        exact LLq40 0 (by unfold mHas; omega) _ _ _ hG (lv_sub hl [0, 1] rfl)
      · skip
        have c32 : ¬ ((zI (G 41 oq.toNat)) ≤ nI 0) := c32
        have c32 : ¬ ((G 41 oq.toNat) ≤ ((0 : Nat) : Int)) := fun z9 => c32 ((cmp_le (zI_toInt (by omega) (by omega)) (nI_toInt (by omega))).mpr z9)
        refine lv_iconst (v := nI 1) hx hb dX10_hasValue_35 (by decide) ?_
        refine lv_goto (tgt := 40) hx hb dX10_hasValue_36 (by decide) ?_
        exact LLq40 1 (by unfold mHas; omega) _ _ _ hG (lv_sub hl [0, 1] rfl)
  · skip
    have c3 : ¬ (oq < ((100 : Nat) : Int)) := fun z9 => c3 ((cmp_lt (zI_toInt (by omega) (by omega)) (nI_toInt (by omega))).mpr z9)
    refine lv_aload_n hx hb dX10_hasValue_6 rfl (lv_at hl 0 rfl) ?_
    refine g_get (C := RX10) (T := TX10) (NN := 35) (ci := 10) hx hb hts hinX10 hown hE hG (k := 28) (by omega) rfl rfl 31 (by decide) (hts (.fieldLink RX10 61 "CommutatorModel" "isKnown" "[Z") (List.mem_of_getElem? (i := 1) rfl)) rfl (v := .ref (ad 46)) rfl dX10_hasValue_7 ?_
    refine lv_iload_n hx hb dX10_hasValue_10 rfl (lv_at hl 1 rfl) ?_
    refine lv_bipush (v := nI 100) hx hb dX10_hasValue_11 (by decide) ?_
    refine lv_isub hx hb dX10_hasValue_13 ?_
    refine g_top (y := zI (oq - 100)) (zI_sub_in _ _) ?_
    refine g_zald hx hb hE hG (k := 46) (by omega) rfl ((oq - 100).toNat) (zI_nat (by omega)) (by omega) (by omega) dX10_hasValue_14 ?_
    refine g_top (y := zI (G 46 ((oq - 100).toNat))) (hM 46 ((oq - 100).toNat) (by omega) (by omega) (by omega)) ?_
    refine g_top (y := nI ((G 46 (oq - 100).toNat).toNat)) (zI_nat (by omega)) ?_
    refine lv_goto (tgt := 40) hx hb dX10_hasValue_15 (by decide) ?_
    exact LLq40 ((G 46 (oq - 100).toNat).toNat) (by unfold mHas; omega) _ _ _ hG (lv_sub hl [0, 1] rfl)

abbrev PX10_valueOf (ad : Nat → Nat) (A : Nat → Nat → Int32) (J : Nat → Nat → Int64) (G : Nat → Nat → Int) (oq : Int) : Option Value → (Nat → Nat → Int32) → (Nat → Nat → Int64) → Prop := fun v_ A1 J1 => (v_ = some (.int (zI (mVo G oq))) ∧ A = A1 ∧ J = J1)
set_option maxHeartbeats 4000000 in
set_option maxRecDepth 100000 in
theorem cX10_valueOfC (l : Launch) (D : va_G) (cy : Nat → ClassId) (base : Nat) (ad : Nat → Nat) (n : Nat) (A : Nat → Nat → Int32) (J : Nat → Nat → Int64) (G : Nat → Nat → Int) (oq : Int) (hM : MRep A G) (hoq : isOp oq) : gMet l yX10_valueOf wsX10_valueOf ({ frames := 0, cells := 0, slots := 0, locals := 0 } : Room) D cy base ad n A J [.ref (ad 28), .int (zI oq)] (PX10_valueOf ad A J G oq) := by
  refine g_ofW (cc := cX10_valueOf) (maxL := 2) (ret := (some .int)) (by decide) rfl (Nat.le_of_ble_eq_true rfl) ?_
  intro pM eM sM mM aM bM methM cM H locs ls hx hb hr hts hown hlocks hml hE hG hl
  have hl : lv_has ls 2 [(0, .ref (ad 28)), (1, .int (zI oq))] := hl
  have hinX10 : ∀ w ∈ u_ws RX10 TX10 35, w ∈ wsX10_valueOf := by decide +kernel
  refine lv_iload_n hx hb dX10_valueOf_0 rfl (lv_at hl 1 rfl) ?_
  refine lv_bipush (v := nI 100) hx hb dX10_valueOf_1 (by decide) ?_
  refine lv_icmp_lt (tgt := 18) hx hb dX10_valueOf_3 (by decide) (fun c3 => ?_) (fun c3 => ?_)
  · skip
    have c3 : oq < ((100 : Nat) : Int) := (cmp_lt (zI_toInt (by omega) (by omega)) (nI_toInt (by omega))).mp c3
    refine lv_aload_n hx hb dX10_valueOf_18 rfl (lv_at hl 0 rfl) ?_
    refine g_get (C := RX10) (T := TX10) (NN := 35) (ci := 10) hx hb hts hinX10 hown hE hG (k := 28) (by omega) rfl rfl 24 (by decide) (hts (.fieldLink RX10 40 "CommutatorModel" "value" "[I") (List.mem_of_getElem? (i := 2) rfl)) rfl (v := .ref (ad 39)) rfl dX10_valueOf_19 ?_
    refine lv_iload_n hx hb dX10_valueOf_22 rfl (lv_at hl 1 rfl) ?_
    refine g_iald hx hb hE hG (k := 39) (by omega) rfl oq.toNat (zI_nat (by omega)) (by omega) (by omega) dX10_valueOf_23 ?_
    refine g_top (y := zI (G 39 oq.toNat)) (hM 39 oq.toNat (by omega) (by omega) (by omega)) ?_
    exact g_iret hx hb hr hlocks hG ⟨congrArg (fun q9 => some (Value.int (zI q9))) (by unfold mVo; first | rw [if_pos (by omega)] | rw [if_neg (by omega)]), rfl, rfl⟩ dX10_valueOf_24
  · skip
    have c3 : ¬ (oq < ((100 : Nat) : Int)) := fun z9 => c3 ((cmp_lt (zI_toInt (by omega) (by omega)) (nI_toInt (by omega))).mpr z9)
    refine lv_aload_n hx hb dX10_valueOf_6 rfl (lv_at hl 0 rfl) ?_
    refine g_get (C := RX10) (T := TX10) (NN := 35) (ci := 10) hx hb hts hinX10 hown hE hG (k := 28) (by omega) rfl rfl 32 (by decide) (hts (.fieldLink RX10 65 "CommutatorModel" "derived" "[I") (List.mem_of_getElem? (i := 1) rfl)) rfl (v := .ref (ad 47)) rfl dX10_valueOf_7 ?_
    refine lv_iload_n hx hb dX10_valueOf_10 rfl (lv_at hl 1 rfl) ?_
    refine lv_bipush (v := nI 100) hx hb dX10_valueOf_11 (by decide) ?_
    refine lv_isub hx hb dX10_valueOf_13 ?_
    refine g_top (y := zI (oq - 100)) (zI_sub_in _ _) ?_
    refine g_iald hx hb hE hG (k := 47) (by omega) rfl ((oq - 100).toNat) (zI_nat (by omega)) (by omega) (by omega) dX10_valueOf_14 ?_
    refine g_top (y := zI (G 47 ((oq - 100).toNat))) (hM 47 ((oq - 100).toNat) (by omega) (by omega) (by omega)) ?_
    refine lv_goto (tgt := 24) hx hb dX10_valueOf_15 (by decide) ?_
    exact g_iret hx hb hr hlocks hG ⟨congrArg (fun q9 => some (Value.int (zI q9))) (by unfold mVo; first | rw [if_pos (by omega)] | rw [if_neg (by omega)]), rfl, rfl⟩ dX10_valueOf_24

abbrev PX10_timeOf (ad : Nat → Nat) (A : Nat → Nat → Int32) (J : Nat → Nat → Int64) (G : Nat → Nat → Int) (oq : Int) : Option Value → (Nat → Nat → Int32) → (Nat → Nat → Int64) → Prop := fun v_ A1 J1 => (v_ = some (.int (zI (mTo G oq))) ∧ A = A1 ∧ J = J1)
set_option maxHeartbeats 4000000 in
set_option maxRecDepth 100000 in
theorem cX10_timeOfC (l : Launch) (D : va_G) (cy : Nat → ClassId) (base : Nat) (ad : Nat → Nat) (n : Nat) (A : Nat → Nat → Int32) (J : Nat → Nat → Int64) (G : Nat → Nat → Int) (oq : Int) (hM : MRep A G) (hoq : isOp oq) : gMet l yX10_timeOf wsX10_timeOf ({ frames := 0, cells := 0, slots := 0, locals := 0 } : Room) D cy base ad n A J [.ref (ad 28), .int (zI oq)] (PX10_timeOf ad A J G oq) := by
  refine g_ofW (cc := cX10_timeOf) (maxL := 2) (ret := (some .int)) (by decide) rfl (Nat.le_of_ble_eq_true rfl) ?_
  intro pM eM sM mM aM bM methM cM H locs ls hx hb hr hts hown hlocks hml hE hG hl
  have hl : lv_has ls 2 [(0, .ref (ad 28)), (1, .int (zI oq))] := hl
  have hinX10 : ∀ w ∈ u_ws RX10 TX10 35, w ∈ wsX10_timeOf := by decide +kernel
  refine lv_iload_n hx hb dX10_timeOf_0 rfl (lv_at hl 1 rfl) ?_
  refine lv_bipush (v := nI 100) hx hb dX10_timeOf_1 (by decide) ?_
  refine lv_icmp_lt (tgt := 18) hx hb dX10_timeOf_3 (by decide) (fun c3 => ?_) (fun c3 => ?_)
  · skip
    have c3 : oq < ((100 : Nat) : Int) := (cmp_lt (zI_toInt (by omega) (by omega)) (nI_toInt (by omega))).mp c3
    refine lv_aload_n hx hb dX10_timeOf_18 rfl (lv_at hl 0 rfl) ?_
    refine g_get (C := RX10) (T := TX10) (NN := 35) (ci := 10) hx hb hts hinX10 hown hE hG (k := 28) (by omega) rfl rfl 25 (by decide) (hts (.fieldLink RX10 43 "CommutatorModel" "time" "[I") (List.mem_of_getElem? (i := 2) rfl)) rfl (v := .ref (ad 40)) rfl dX10_timeOf_19 ?_
    refine lv_iload_n hx hb dX10_timeOf_22 rfl (lv_at hl 1 rfl) ?_
    refine g_iald hx hb hE hG (k := 40) (by omega) rfl oq.toNat (zI_nat (by omega)) (by omega) (by omega) dX10_timeOf_23 ?_
    refine g_top (y := zI (G 40 oq.toNat)) (hM 40 oq.toNat (by omega) (by omega) (by omega)) ?_
    exact g_iret hx hb hr hlocks hG ⟨congrArg (fun q9 => some (Value.int (zI q9))) (by unfold mTo; first | rw [if_pos (by omega)] | rw [if_neg (by omega)]), rfl, rfl⟩ dX10_timeOf_24
  · skip
    have c3 : ¬ (oq < ((100 : Nat) : Int)) := fun z9 => c3 ((cmp_lt (zI_toInt (by omega) (by omega)) (nI_toInt (by omega))).mpr z9)
    refine lv_aload_n hx hb dX10_timeOf_6 rfl (lv_at hl 0 rfl) ?_
    refine g_get (C := RX10) (T := TX10) (NN := 35) (ci := 10) hx hb hts hinX10 hown hE hG (k := 28) (by omega) rfl rfl 33 (by decide) (hts (.fieldLink RX10 68 "CommutatorModel" "derivedAt" "[I") (List.mem_of_getElem? (i := 1) rfl)) rfl (v := .ref (ad 48)) rfl dX10_timeOf_7 ?_
    refine lv_iload_n hx hb dX10_timeOf_10 rfl (lv_at hl 1 rfl) ?_
    refine lv_bipush (v := nI 100) hx hb dX10_timeOf_11 (by decide) ?_
    refine lv_isub hx hb dX10_timeOf_13 ?_
    refine g_top (y := zI (oq - 100)) (zI_sub_in _ _) ?_
    refine g_iald hx hb hE hG (k := 48) (by omega) rfl ((oq - 100).toNat) (zI_nat (by omega)) (by omega) (by omega) dX10_timeOf_14 ?_
    refine g_top (y := zI (G 48 ((oq - 100).toNat))) (hM 48 ((oq - 100).toNat) (by omega) (by omega) (by omega)) ?_
    refine lv_goto (tgt := 24) hx hb dX10_timeOf_15 (by decide) ?_
    exact g_iret hx hb hr hlocks hG ⟨congrArg (fun q9 => some (Value.int (zI q9))) (by unfold mTo; first | rw [if_pos (by omega)] | rw [if_neg (by omega)]), rfl, rfl⟩ dX10_timeOf_24

abbrev PX10_made (ad : Nat → Nat) (A : Nat → Nat → Int32) (J : Nat → Nat → Int64) (oq aq bq : Int) : Option Value → (Nat → Nat → Int32) → (Nat → Nat → Int64) → Prop := fun v_ A1 J1 => (v_ = some (.int (zI (mMade oq aq bq))) ∧ A = A1 ∧ J = J1)
set_option maxHeartbeats 4000000 in
set_option maxRecDepth 100000 in
theorem cX10_madeC (l : Launch) (D : va_G) (cy : Nat → ClassId) (base : Nat) (ad : Nat → Nat) (n : Nat) (A : Nat → Nat → Int32) (J : Nat → Nat → Int64) (oq aq bq : Int) (ho : 0 ≤ oq ∧ oq ≤ 4) (ha : -1000000 ≤ aq ∧ aq ≤ 1000000) (hbr : -1000000 ≤ bq ∧ bq ≤ 1000000) : gMet l yX10_made wsX10_made ({ frames := 0, cells := 0, slots := 0, locals := 0 } : Room) D cy base ad n A J [.int (zI oq), .long (zL aq), .long (zL bq)] (PX10_made ad A J oq aq bq) := by
  refine g_ofW (cc := cX10_made) (maxL := 7) (ret := (some .int)) (by decide) rfl (Nat.le_of_ble_eq_true rfl) ?_
  intro pM eM sM mM aM bM methM cM H locs ls hx hb hr hts hown hlocks hml hE hG hl
  have hl : lv_has ls 7 [(0, .int (zI oq)), (1, .long (zL aq)), (3, .long (zL bq))] := hl
  have hmul : -1000000000000 ≤ aq * bq ∧ aq * bq ≤ 1000000000000 := z_mul6 ha hbr
  have hop : -1000000000000 ≤ mOp oq aq bq ∧ mOp oq aq bq ≤ 1000000000000 := by unfold mOp; (repeat' split) <;> omega
  have LLq61 : ∀  (sq : Int) (hsq : sq = mOp oq aq bq) (H : Heap) (locs : List Loc) (ls : Array Slot), gH D base sM ad (50 + 2 * n) (gw cy ad n A J) H locs → lv_has ls 7 [(0, .int (zI oq)), (1, .long (zL aq)), (3, .long (zL bq))] → W pM l eM ({ frames := 0, cells := 0, slots := 0, locals := 0 } : Room) sM mM aM bM methM cM H locs 0 0 (MQ bM (gPost D cy base ad n (PX10_made ad A J oq aq bq)) aM sM 0 0 (fun q => base ≤ q)) (F0 mM 61 ls [.long (zL sq)]) := by
    intro sq hsq H locs ls hG hl
    subst hsq
    refine lv_lstore (lv' := [(5, .long (zL (mOp oq aq bq))), (0, .int (zI oq)), (1, .long (zL aq)), (3, .long (zL bq))]) hx hb dX10_made_61 hl (by decide) rfl (fun ls hl => ?_)
    have LLq95 : ∀  (cq : Int) (hcq : cq = mMade oq aq bq) (H : Heap) (locs : List Loc) (ls : Array Slot), gH D base sM ad (50 + 2 * n) (gw cy ad n A J) H locs → lv_has ls 7 [(5, .long (zL (mOp oq aq bq))), (0, .int (zI oq)), (1, .long (zL aq)), (3, .long (zL bq))] → W pM l eM ({ frames := 0, cells := 0, slots := 0, locals := 0 } : Room) sM mM aM bM methM cM H locs 0 0 (MQ bM (gPost D cy base ad n (PX10_made ad A J oq aq bq)) aM sM 0 0 (fun q => base ≤ q)) (F0 mM 95 ls [.long (zL cq)]) := by
      intro cq hcq H locs ls hG hl
      subst hcq
      refine lv_l2i (v := zI (mMade oq aq bq)) hx hb dX10_made_95 (zL_l2i _) ?_
      exact g_iret hx hb hr hlocks hG ⟨rfl, rfl, rfl⟩ dX10_made_96
    refine lv_lload hx hb dX10_made_63 (lv_at hl 0 rfl) ?_
    refine lv_ldc2 (v := 1000000) hx hb hown (hts (.constantLong RX10 187 (1000000)) (List.mem_of_getElem? (i := 1) rfl)) dX10_made_65 ?_
    refine g_topl (y := zL (1000000)) (by decide) ?_
    refine W.lcmp hx hb dX10_made_68 ?_
    refine lv_if_le (tgt := 78) hx hb dX10_made_69 (by decide) (fun c69 => ?_) (fun c69 => ?_)
    · skip
      have c69 : (mOp oq aq bq) ≤ (1000000) := ((lg_cmp_le _ _).trans (zL_le (by omega) (by omega) (by omega) (by omega))).mp c69
      refine lv_lload hx hb dX10_made_78 (lv_at hl 0 rfl) ?_
      refine lv_ldc2 (v := -1000000) hx hb hown (hts (.constantLong RX10 189 (-1000000)) (List.mem_of_getElem? (i := 2) rfl)) dX10_made_80 ?_
      refine g_topl (y := zL (-1000000)) (by decide) ?_
      refine W.lcmp hx hb dX10_made_83 ?_
      refine lv_if_ge (tgt := 93) hx hb dX10_made_84 (by decide) (fun c84 => ?_) (fun c84 => ?_)
      · skip
        have c84 : (-1000000) ≤ (mOp oq aq bq) := ((lg_cmp_ge _ _).trans (zL_le (by omega) (by omega) (by omega) (by omega))).mp c84
        refine lv_lload hx hb dX10_made_93 (lv_at hl 0 rfl) ?_
        exact LLq95 (mOp oq aq bq) (by unfold mMade mClamp; (repeat' split) <;> omega) _ _ _ hG (lv_sub hl [0, 1, 2, 3] rfl)
      · skip
        have c84 : ¬ ((-1000000) ≤ (mOp oq aq bq)) := fun z9 => c84 (((lg_cmp_ge _ _).trans (zL_le (by omega) (by omega) (by omega) (by omega))).mpr z9)
        refine lv_ldc2 (v := -1000000) hx hb hown (hts (.constantLong RX10 189 (-1000000)) (List.mem_of_getElem? (i := 2) rfl)) dX10_made_87 ?_
        refine g_topl (y := zL (-1000000)) (by decide) ?_
        refine lv_goto (tgt := 95) hx hb dX10_made_90 (by decide) ?_
        exact LLq95 (-1000000) (by unfold mMade mClamp; (repeat' split) <;> omega) _ _ _ hG (lv_sub hl [0, 1, 2, 3] rfl)
    · skip
      have c69 : ¬ ((mOp oq aq bq) ≤ (1000000)) := fun z9 => c69 (((lg_cmp_le _ _).trans (zL_le (by omega) (by omega) (by omega) (by omega))).mpr z9)
      refine lv_ldc2 (v := 1000000) hx hb hown (hts (.constantLong RX10 187 (1000000)) (List.mem_of_getElem? (i := 1) rfl)) dX10_made_72 ?_
      refine g_topl (y := zL (1000000)) (by decide) ?_
      refine lv_goto (tgt := 95) hx hb dX10_made_75 (by decide) ?_
      exact LLq95 (1000000) (by unfold mMade mClamp; (repeat' split) <;> omega) _ _ _ hG (lv_sub hl [0, 1, 2, 3] rfl)
  refine lv_iload_n hx hb dX10_made_0 rfl (lv_at hl 0 rfl) ?_
  refine lv_if_ne (tgt := 10) hx hb dX10_made_1 (by decide) (fun c1 => ?_) (fun c1 => ?_)
  · skip
    have c1 : ¬ ((zI oq) = nI 0) := c1
    have c1 : ¬ (oq = ((0 : Nat) : Int)) := fun z9 => c1 ((cmp_eq (zI_toInt (by omega) (by omega)) (nI_toInt (by omega))).mpr z9)
    refine lv_iload_n hx hb dX10_made_10 rfl (lv_at hl 0 rfl) ?_
    refine lv_iconst (v := nI 1) hx hb dX10_made_11 (by decide) ?_
    refine lv_icmp_ne (tgt := 21) hx hb dX10_made_12 (by decide) (fun c12 => ?_) (fun c12 => ?_)
    · skip
      have c12 : ¬ (oq = ((1 : Nat) : Int)) := fun z9 => c12 ((cmp_eq (zI_toInt (by omega) (by omega)) (nI_toInt (by omega))).mpr z9)
      refine lv_iload_n hx hb dX10_made_21 rfl (lv_at hl 0 rfl) ?_
      refine lv_iconst (v := nI 2) hx hb dX10_made_22 (by decide) ?_
      refine lv_icmp_ne (tgt := 32) hx hb dX10_made_23 (by decide) (fun c23 => ?_) (fun c23 => ?_)
      · skip
        have c23 : ¬ (oq = ((2 : Nat) : Int)) := fun z9 => c23 ((cmp_eq (zI_toInt (by omega) (by omega)) (nI_toInt (by omega))).mpr z9)
        refine lv_iload_n hx hb dX10_made_32 rfl (lv_at hl 0 rfl) ?_
        refine lv_iconst (v := nI 3) hx hb dX10_made_33 (by decide) ?_
        refine lv_icmp_ne (tgt := 41) hx hb dX10_made_34 (by decide) (fun c34 => ?_) (fun c34 => ?_)
        · skip
          have c34 : ¬ (oq = ((3 : Nat) : Int)) := fun z9 => c34 ((cmp_eq (zI_toInt (by omega) (by omega)) (nI_toInt (by omega))).mpr z9)
          refine lv_iconst (v := nI 0) hx hb dX10_made_41 (by decide) ?_
          refine lv_lload_n hx hb dX10_made_42 rfl (lv_at hl 1 rfl) ?_
          refine lv_lload_n hx hb dX10_made_43 rfl (lv_at hl 2 rfl) ?_
          refine W.lcmp hx hb dX10_made_44 ?_
          refine lv_if_le (tgt := 52) hx hb dX10_made_45 (by decide) (fun c45 => ?_) (fun c45 => ?_)
          · skip
            have c45 : aq ≤ bq := ((lg_cmp_le _ _).trans (zL_le (by omega) (by omega) (by omega) (by omega))).mp c45
            refine lv_iconst (v := nI 0) hx hb dX10_made_52 (by decide) ?_
            refine lv_icmp_ne (tgt := 60) hx hb dX10_made_53 (by decide) (fun c53 => ?_) (fun c53 => ?_)
            · skip
              exact absurd c53 (by decide)
            · skip
              refine lv_lload_n hx hb dX10_made_56 rfl (lv_at hl 1 rfl) ?_
              refine lv_goto (tgt := 61) hx hb dX10_made_57 (by decide) ?_
              exact LLq61 aq (by unfold mOp; (repeat' split) <;> omega) _ _ _ hG (lv_sub hl [0, 1, 2] rfl)
          · skip
            have c45 : ¬ (aq ≤ bq) := fun z9 => c45 (((lg_cmp_le _ _).trans (zL_le (by omega) (by omega) (by omega) (by omega))).mpr z9)
            refine lv_iconst (v := nI 1) hx hb dX10_made_48 (by decide) ?_
            refine lv_goto (tgt := 53) hx hb dX10_made_49 (by decide) ?_
            refine lv_icmp_ne (tgt := 60) hx hb dX10_made_53 (by decide) (fun c53 => ?_) (fun c53 => ?_)
            · skip
              refine lv_lload_n hx hb dX10_made_60 rfl (lv_at hl 2 rfl) ?_
              exact LLq61 bq (by unfold mOp; (repeat' split) <;> omega) _ _ _ hG (lv_sub hl [0, 1, 2] rfl)
            · skip
              exact absurd c53 (by decide)
        · skip
          have c34 : oq = ((3 : Nat) : Int) := (cmp_eq (zI_toInt (by omega) (by omega)) (nI_toInt (by omega))).mp c34
          refine lv_iconst (v := nI 1) hx hb dX10_made_37 (by decide) ?_
          refine lv_goto (tgt := 42) hx hb dX10_made_38 (by decide) ?_
          refine lv_lload_n hx hb dX10_made_42 rfl (lv_at hl 1 rfl) ?_
          refine lv_lload_n hx hb dX10_made_43 rfl (lv_at hl 2 rfl) ?_
          refine W.lcmp hx hb dX10_made_44 ?_
          refine lv_if_le (tgt := 52) hx hb dX10_made_45 (by decide) (fun c45 => ?_) (fun c45 => ?_)
          · skip
            have c45 : aq ≤ bq := ((lg_cmp_le _ _).trans (zL_le (by omega) (by omega) (by omega) (by omega))).mp c45
            refine lv_iconst (v := nI 0) hx hb dX10_made_52 (by decide) ?_
            refine lv_icmp_ne (tgt := 60) hx hb dX10_made_53 (by decide) (fun c53 => ?_) (fun c53 => ?_)
            · skip
              refine lv_lload_n hx hb dX10_made_60 rfl (lv_at hl 2 rfl) ?_
              exact LLq61 bq (by unfold mOp; (repeat' split) <;> omega) _ _ _ hG (lv_sub hl [0, 1, 2] rfl)
            · skip
              exact absurd c53 (by decide)
          · skip
            have c45 : ¬ (aq ≤ bq) := fun z9 => c45 (((lg_cmp_le _ _).trans (zL_le (by omega) (by omega) (by omega) (by omega))).mpr z9)
            refine lv_iconst (v := nI 1) hx hb dX10_made_48 (by decide) ?_
            refine lv_goto (tgt := 53) hx hb dX10_made_49 (by decide) ?_
            refine lv_icmp_ne (tgt := 60) hx hb dX10_made_53 (by decide) (fun c53 => ?_) (fun c53 => ?_)
            · skip
              exact absurd c53 (by decide)
            · skip
              refine lv_lload_n hx hb dX10_made_56 rfl (lv_at hl 1 rfl) ?_
              refine lv_goto (tgt := 61) hx hb dX10_made_57 (by decide) ?_
              exact LLq61 aq (by unfold mOp; (repeat' split) <;> omega) _ _ _ hG (lv_sub hl [0, 1, 2] rfl)
      · skip
        have c23 : oq = ((2 : Nat) : Int) := (cmp_eq (zI_toInt (by omega) (by omega)) (nI_toInt (by omega))).mp c23
        refine lv_lload_n hx hb dX10_made_26 rfl (lv_at hl 1 rfl) ?_
        refine lv_lload_n hx hb dX10_made_27 rfl (lv_at hl 2 rfl) ?_
        refine lv_lmul hx hb dX10_made_28 ?_
        refine g_topl (y := zL (aq * bq)) (zL_mul _ _) ?_
        refine lv_goto (tgt := 61) hx hb dX10_made_29 (by decide) ?_
        exact LLq61 (aq * bq) (by unfold mOp; (repeat' split) <;> omega) _ _ _ hG (lv_sub hl [0, 1, 2] rfl)
    · skip
      have c12 : oq = ((1 : Nat) : Int) := (cmp_eq (zI_toInt (by omega) (by omega)) (nI_toInt (by omega))).mp c12
      refine lv_lload_n hx hb dX10_made_15 rfl (lv_at hl 1 rfl) ?_
      refine lv_lload_n hx hb dX10_made_16 rfl (lv_at hl 2 rfl) ?_
      refine lv_lsub hx hb dX10_made_17 ?_
      refine g_topl (y := zL (aq - bq)) (zL_sub _ _) ?_
      refine lv_goto (tgt := 61) hx hb dX10_made_18 (by decide) ?_
      exact LLq61 (aq - bq) (by unfold mOp; (repeat' split) <;> omega) _ _ _ hG (lv_sub hl [0, 1, 2] rfl)
  · skip
    have c1 : (zI oq) = nI 0 := c1
    have c1 : oq = ((0 : Nat) : Int) := (cmp_eq (zI_toInt (by omega) (by omega)) (nI_toInt (by omega))).mp c1
    refine lv_lload_n hx hb dX10_made_4 rfl (lv_at hl 1 rfl) ?_
    refine lv_lload_n hx hb dX10_made_5 rfl (lv_at hl 2 rfl) ?_
    refine lv_ladd hx hb dX10_made_6 ?_
    refine g_topl (y := zL (aq + bq)) (zL_add _ _) ?_
    refine lv_goto (tgt := 61) hx hb dX10_made_7 (by decide) ?_
    exact LLq61 (aq + bq) (by unfold mOp; (repeat' split) <;> omega) _ _ _ hG (lv_sub hl [0, 1, 2] rfl)

abbrev PX10_comesTo (ad : Nat → Nat) (A : Nat → Nat → Int32) (J : Nat → Nat → Int64) (G : Nat → Nat → Int) (aq bq tq : Int) : Option Value → (Nat → Nat → Int32) → (Nat → Nat → Int64) → Prop := fun v_ A1 J1 => (v_ = some (.int (nI 1)) ∧ A = A1 ∧ J = J1 ∧ ((mReach G aq bq).testBit tq.toNat = true)) ∨ (v_ = some (.int (nI 0)) ∧ A = A1 ∧ J = J1 ∧ (¬ ((mReach G aq bq).testBit tq.toNat = true)))
set_option maxHeartbeats 4000000 in
set_option maxRecDepth 100000 in
theorem cX10_comesToC (l : Launch) (D : va_G) (cy : Nat → ClassId) (base : Nat) (ad : Nat → Nat) (n : Nat) (A : Nat → Nat → Int32) (J : Nat → Nat → Int64) (G : Nat → Nat → Int) (aq bq tq : Int) (hM : MRep A G) (hdv : mDvOk G) (haq : isOp aq) (hbq : isOp bq) (htq : 0 ≤ tq ∧ tq ≤ 7) : gMet l yX10_comesTo wsX10_comesTo ({ frames := 0, cells := 0, slots := 0, locals := 0 } : Room) D cy base ad n A J [.ref (ad 28), .int (zI aq), .int (zI bq), .int (zI tq)] (PX10_comesTo ad A J G aq bq tq) := by
  refine g_ofW (cc := cX10_comesTo) (maxL := 7) (ret := (some .boolean)) (by decide) rfl (Nat.le_of_ble_eq_true rfl) ?_
  intro pM eM sM mM aM bM methM cM H locs ls hx hb hr hts hown hlocks hml hE hG hl
  have hl : lv_has ls 7 [(0, .ref (ad 28)), (1, .int (zI aq)), (2, .int (zI bq)), (3, .int (zI tq))] := hl
  have hinX10 : ∀ w ∈ u_ws RX10 TX10 35, w ∈ wsX10_comesTo := by decide +kernel
  have hoa := om_lt (o := aq) (by omega)
  have hob := om_lt (o := bq) (by omega)
  have hm0 := or_256 hoa hob
  have hmr9 : mReach G aq bq < 256 := mCTr_lt hdv hm0 8
  have htb2 := tbN_le (mReach G aq bq) tq.toNat
  have LLq16 : ∀  (xq : Nat) (hxq : xq = om (aq)) (H : Heap) (locs : List Loc) (ls : Array Slot), gH D base sM ad (50 + 2 * n) (gw cy ad n A J) H locs → lv_has ls 7 [(0, .ref (ad 28)), (1, .int (zI aq)), (2, .int (zI bq)), (3, .int (zI tq))] → W pM l eM ({ frames := 0, cells := 0, slots := 0, locals := 0 } : Room) sM mM aM bM methM cM H locs 0 0 (MQ bM (gPost D cy base ad n (PX10_comesTo ad A J G aq bq tq)) aM sM 0 0 (fun q => base ≤ q)) (F0 mM 16 ls [.int (nI xq)]) := by
    intro xq hxq H locs ls hG hl
    subst hxq
    have LLq32 : ∀  (yq : Nat) (hyq : yq = om (bq)) (H : Heap) (locs : List Loc) (ls : Array Slot), gH D base sM ad (50 + 2 * n) (gw cy ad n A J) H locs → lv_has ls 7 [(0, .ref (ad 28)), (1, .int (zI aq)), (2, .int (zI bq)), (3, .int (zI tq))] → W pM l eM ({ frames := 0, cells := 0, slots := 0, locals := 0 } : Room) sM mM aM bM methM cM H locs 0 0 (MQ bM (gPost D cy base ad n (PX10_comesTo ad A J G aq bq tq)) aM sM 0 0 (fun q => base ≤ q)) (F0 mM 32 ls [.int (nI yq), .int (nI (om (aq)))]) := by
      intro yq hyq H locs ls hG hl
      subst hyq
      refine lv_ior hx hb dX10_comesTo_32 ?_
      refine g_top (y := nI ((om (aq)) ||| (om (bq)))) (nI_or (by omega) (by omega)) ?_
      refine lv_istore (lv' := [(4, .int (nI ((om (aq)) ||| (om (bq))))), (0, .ref (ad 28)), (1, .int (zI aq)), (2, .int (zI bq)), (3, .int (zI tq))]) hx hb dX10_comesTo_33 hl (by decide) rfl (fun ls hl => ?_)
      refine lv_iconst (v := nI 0) hx hb dX10_comesTo_35 (by decide) ?_
      refine lv_istore (lv' := [(5, .int (nI 0)), (4, .int (nI ((om (aq)) ||| (om (bq))))), (0, .ref (ad 28)), (1, .int (zI aq)), (2, .int (zI bq)), (3, .int (zI tq))]) hx hb dX10_comesTo_36 hl (by decide) rfl (fun ls hl => ?_)
      have LLq38 : ∀ (fuel : Nat) (rq : Nat) (hrq : rq ≤ 8) (_ : (8 - rq) < fuel) (H : Heap) (locs : List Loc) (ls : Array Slot), gH D base sM ad (50 + 2 * n) (gw cy ad n A J) H locs → lv_has ls 7 [(0, .ref (ad 28)), (1, .int (zI aq)), (2, .int (zI bq)), (3, .int (zI tq)), (4, .int (nI (mCTr G (om aq ||| om bq) rq))), (5, .int (nI rq))] → W pM l eM ({ frames := 0, cells := 0, slots := 0, locals := 0 } : Room) sM mM aM bM methM cM H locs 0 0 (MQ bM (gPost D cy base ad n (PX10_comesTo ad A J G aq bq tq)) aM sM 0 0 (fun q => base ≤ q)) (F0 mM 38 ls []) := by
        intro fuel
        induction fuel with
        | zero => intro rq hrq hms H locs ls hG hl; exact absurd hms (Nat.not_lt_zero _)
        | succ fuel ihq38 =>
          intro rq hrq hms H locs ls hG hl
          refine lv_iload hx hb dX10_comesTo_38 (lv_at hl 5 rfl) ?_
          refine lv_bipush (v := nI 8) hx hb dX10_comesTo_40 (by decide) ?_
          refine lv_icmp_ge (tgt := 155) hx hb dX10_comesTo_42 (by decide) (fun c42 => ?_) (fun c42 => ?_)
          · skip
            have c42 : 8 ≤ rq := (nI_leI (by omega) (by omega)).mp c42
            have hr8 : rq = 8 := by omega
            subst hr8
            refine lv_iload hx hb dX10_comesTo_155 (lv_at hl 4 rfl) ?_
            refine lv_iload_n hx hb dX10_comesTo_157 rfl (lv_at hl 3 rfl) ?_
            refine lv_ishr hx hb dX10_comesTo_158 ?_
            refine g_top (y := nI (mReach G aq bq) >>> (zI tq &&& 31)) (rfl) ?_
            refine lv_iconst (v := nI 1) hx hb dX10_comesTo_159 (by decide) ?_
            refine lv_iand hx hb dX10_comesTo_160 ?_
            refine g_top (y := nI (tbN (mReach G aq bq) tq.toNat)) (by rw [zI_nat htq.1]; exact z_tbN (by omega) (by omega)) ?_
            refine lv_iconst (v := nI 1) hx hb dX10_comesTo_161 (by decide) ?_
            refine lv_icmp_ne (tgt := 169) hx hb dX10_comesTo_162 (by decide) (fun c162 => ?_) (fun c162 => ?_)
            · skip
              have c162 : ¬ ((tbN (mReach G aq bq) tq.toNat) = 1) := fun z9 => c162 ((nI_eq (by omega) (by omega)).mpr z9)
              refine lv_iconst (v := nI 0) hx hb dX10_comesTo_169 (by decide) ?_
              exact g_zret hx hb hr hlocks hG rfl (Or.inr ⟨rfl, rfl, rfl, fun z9 => absurd (tbN_1.mpr z9) (by omega)⟩) dX10_comesTo_170
            · skip
              have c162 : (tbN (mReach G aq bq) tq.toNat) = 1 := (nI_eq (by omega) (by omega)).mp c162
              refine lv_iconst (v := nI 1) hx hb dX10_comesTo_165 (by decide) ?_
              refine lv_goto (tgt := 170) hx hb dX10_comesTo_166 (by decide) ?_
              exact g_zret hx hb hr hlocks hG rfl (Or.inl ⟨rfl, rfl, rfl, tbN_1.mp (by omega)⟩) dX10_comesTo_170
          · skip
            have c42 : ¬ (8 ≤ rq) := fun z9 => c42 ((nI_leI (by omega) (by omega)).mpr z9)
            refine lv_iconst (v := nI 0) hx hb dX10_comesTo_45 (by decide) ?_
            refine lv_istore (lv' := [(6, .int (nI 0)), (0, .ref (ad 28)), (1, .int (zI aq)), (2, .int (zI bq)), (3, .int (zI tq)), (4, .int (nI (mCTr G (om aq ||| om bq) rq))), (5, .int (nI rq))]) hx hb dX10_comesTo_46 hl (by decide) rfl (fun ls hl => ?_)
            have LLq48 : ∀ (fuel : Nat) (kq : Nat) (hkq : kq ≤ 8) (_ : (8 - kq) < fuel) (H : Heap) (locs : List Loc) (ls : Array Slot), gH D base sM ad (50 + 2 * n) (gw cy ad n A J) H locs → lv_has ls 7 [(0, .ref (ad 28)), (1, .int (zI aq)), (2, .int (zI bq)), (3, .int (zI tq)), (4, .int (nI (mCTk G (mCTr G (om aq ||| om bq) rq) kq))), (5, .int (nI rq)), (6, .int (nI kq))] → W pM l eM ({ frames := 0, cells := 0, slots := 0, locals := 0 } : Room) sM mM aM bM methM cM H locs 0 0 (MQ bM (gPost D cy base ad n (PX10_comesTo ad A J G aq bq tq)) aM sM 0 0 (fun q => base ≤ q)) (F0 mM 48 ls []) := by
              intro fuel
              induction fuel with
              | zero => intro kq hkq hms H locs ls hG hl; exact absurd hms (Nat.not_lt_zero _)
              | succ fuel ihq48 =>
                intro kq hkq hms H locs ls hG hl
                refine lv_iload hx hb dX10_comesTo_48 (lv_at hl 6 rfl) ?_
                refine lv_bipush (v := nI 8) hx hb dX10_comesTo_50 (by decide) ?_
                refine lv_icmp_ge (tgt := 149) hx hb dX10_comesTo_52 (by decide) (fun c52 => ?_) (fun c52 => ?_)
                · skip
                  have c52 : 8 ≤ kq := (nI_leI (by omega) (by omega)).mp c52
                  have hk8 : kq = 8 := by omega
                  subst hk8
                  refine lv_iinc (v := nI (rq + 1)) (lv' := [(5, .int (nI (rq + 1))), (0, .ref (ad 28)), (1, .int (zI aq)), (2, .int (zI bq)), (3, .int (zI tq)), (4, .int (nI (mCTk G (mCTr G (om aq ||| om bq) rq) 8))), (6, .int (nI 8))]) hx hb dX10_comesTo_149 hl (k := 5) rfl (by rw [show (Int32.ofInt 1 : Int32) = nI 1 from rfl, nI_add]) (by decide) rfl (fun ls hl => ?_)
                  refine lv_goto (tgt := 38) hx hb dX10_comesTo_152 (by decide) ?_
                  exact ihq38 (rq + 1) (by omega) (by omega) _ _ _ hG (lv_sub hl [1, 2, 3, 4, 5, 0] rfl)
                · skip
                  have c52 : ¬ (8 ≤ kq) := fun z9 => c52 ((nI_leI (by omega) (by omega)).mpr z9)
                  have hmk := mCTk_lt hdv (mCTr_lt hdv hm0 rq) kq
                  have hdk := hdv kq
                  have htb := tbN_le (mCTk G (mCTr G (om aq ||| om bq) rq) kq) kq
                  have ho4 := om_lt (o := G 44 kq) (by omega)
                  have ho5 := om_lt (o := G 45 kq) (by omega)
                  have hmk4 := or_256 hmk ho4
                  have LLq143 : ∀  (vq : Nat) (hvq : vq = mCTk G (mCTr G (om aq ||| om bq) rq) (kq + 1)) (H : Heap) (locs : List Loc) (ls : Array Slot), gH D base sM ad (50 + 2 * n) (gw cy ad n A J) H locs → lv_has ls 7 [(0, .ref (ad 28)), (1, .int (zI aq)), (2, .int (zI bq)), (3, .int (zI tq)), (4, .int (nI vq)), (5, .int (nI rq)), (6, .int (nI kq))] → W pM l eM ({ frames := 0, cells := 0, slots := 0, locals := 0 } : Room) sM mM aM bM methM cM H locs 0 0 (MQ bM (gPost D cy base ad n (PX10_comesTo ad A J G aq bq tq)) aM sM 0 0 (fun q => base ≤ q)) (F0 mM 143 ls []) := by
                    intro vq hvq H locs ls hG hl
                    subst hvq
                    refine lv_iinc (v := nI (kq + 1)) (lv' := [(6, .int (nI (kq + 1))), (0, .ref (ad 28)), (1, .int (zI aq)), (2, .int (zI bq)), (3, .int (zI tq)), (4, .int (nI (mCTk G (mCTr G (om aq ||| om bq) rq) (kq + 1)))), (5, .int (nI rq))]) hx hb dX10_comesTo_143 hl (k := 6) rfl (by rw [show (Int32.ofInt 1 : Int32) = nI 1 from rfl, nI_add]) (by decide) rfl (fun ls hl => ?_)
                    refine lv_goto (tgt := 48) hx hb dX10_comesTo_146 (by decide) ?_
                    exact ihq48 (kq + 1) (by omega) (by omega) _ _ _ hG (lv_sub hl [1, 2, 3, 4, 5, 6, 0] rfl)
                  refine lv_iload hx hb dX10_comesTo_55 (lv_at hl 4 rfl) ?_
                  refine lv_iload hx hb dX10_comesTo_57 (lv_at hl 6 rfl) ?_
                  refine lv_ishr hx hb dX10_comesTo_59 ?_
                  refine g_top (y := nI (mCTk G (mCTr G (om aq ||| om bq) rq) kq) >>> (nI kq &&& 31)) (rfl) ?_
                  refine lv_iconst (v := nI 1) hx hb dX10_comesTo_60 (by decide) ?_
                  refine lv_iand hx hb dX10_comesTo_61 ?_
                  refine g_top (y := nI (tbN (mCTk G (mCTr G (om aq ||| om bq) rq) kq) kq)) (z_tbN (by omega) (by omega)) ?_
                  refine lv_iconst (v := nI 1) hx hb dX10_comesTo_62 (by decide) ?_
                  refine lv_icmp_ne (tgt := 143) hx hb dX10_comesTo_63 (by decide) (fun c63 => ?_) (fun c63 => ?_)
                  · skip
                    have c63 : ¬ ((tbN (mCTk G (mCTr G (om aq ||| om bq) rq) kq) kq) = 1) := fun z9 => c63 ((nI_eq (by omega) (by omega)).mpr z9)
                    exact LLq143 (mCTk G (mCTr G (om aq ||| om bq) rq) kq) (by simp only [mCTk, mCT1]; first | rw [if_pos ⟨tbN_1.mp (by omega), by omega⟩] | rw [if_neg (fun z9 => by have y1 := tbN_1.mpr z9.1; have y2 := z9.2; omega)]) _ _ _ hG (lv_sub hl [0, 1, 2, 3, 4, 5, 6] rfl)
                  · skip
                    have c63 : (tbN (mCTk G (mCTr G (om aq ||| om bq) rq) kq) kq) = 1 := (nI_eq (by omega) (by omega)).mp c63
                    refine lv_aload_n hx hb dX10_comesTo_66 rfl (lv_at hl 0 rfl) ?_
                    refine g_get (C := RX10) (T := TX10) (NN := 35) (ci := 10) hx hb hts hinX10 hown hE hG (k := 28) (by omega) rfl rfl 28 (by decide) (hts (.fieldLink RX10 52 "CommutatorModel" "operation" "[I") (List.mem_of_getElem? (i := 1) rfl)) rfl (v := .ref (ad 43)) rfl dX10_comesTo_67 ?_
                    refine lv_iload hx hb dX10_comesTo_70 (lv_at hl 6 rfl) ?_
                    refine g_iald hx hb hE hG (k := 43) (by omega) rfl kq (rfl) (by omega) (by omega) dX10_comesTo_72 ?_
                    refine g_top (y := zI (G 43 kq)) (hM 43 kq (by omega) (by omega) (by omega)) ?_
                    refine lv_iconst (v := zI (-1)) hx hb dX10_comesTo_73 (by decide) ?_
                    refine lv_icmp_eq (tgt := 143) hx hb dX10_comesTo_74 (by decide) (fun c74 => ?_) (fun c74 => ?_)
                    · skip
                      have c74 : (G 43 kq) = (-1) := (cmp_eq (zI_toInt (by omega) (by omega)) (zI_toInt (by omega) (by omega))).mp c74
                      exact LLq143 (mCTk G (mCTr G (om aq ||| om bq) rq) kq) (by simp only [mCTk, mCT1]; first | rw [if_pos ⟨tbN_1.mp (by omega), by omega⟩] | rw [if_neg (fun z9 => by have y1 := tbN_1.mpr z9.1; have y2 := z9.2; omega)]) _ _ _ hG (lv_sub hl [0, 1, 2, 3, 4, 5, 6] rfl)
                    · skip
                      have c74 : ¬ ((G 43 kq) = (-1)) := fun z9 => c74 ((cmp_eq (zI_toInt (by omega) (by omega)) (zI_toInt (by omega) (by omega))).mpr z9)
                      refine lv_iload hx hb dX10_comesTo_77 (lv_at hl 4 rfl) ?_
                      have LLq107 : ∀  (xq : Nat) (hxq : xq = om (G 44 kq)) (H : Heap) (locs : List Loc) (ls : Array Slot), gH D base sM ad (50 + 2 * n) (gw cy ad n A J) H locs → lv_has ls 7 [(0, .ref (ad 28)), (1, .int (zI aq)), (2, .int (zI bq)), (3, .int (zI tq)), (4, .int (nI (mCTk G (mCTr G (om aq ||| om bq) rq) kq))), (5, .int (nI rq)), (6, .int (nI kq))] → W pM l eM ({ frames := 0, cells := 0, slots := 0, locals := 0 } : Room) sM mM aM bM methM cM H locs 0 0 (MQ bM (gPost D cy base ad n (PX10_comesTo ad A J G aq bq tq)) aM sM 0 0 (fun q => base ≤ q)) (F0 mM 107 ls [.int (nI xq), .int (nI (mCTk G (mCTr G (om aq ||| om bq) rq) kq))]) := by
                        intro xq hxq H locs ls hG hl
                        subst hxq
                        refine lv_ior hx hb dX10_comesTo_107 ?_
                        refine g_top (y := nI ((mCTk G (mCTr G (om aq ||| om bq) rq) kq) ||| (om (G 44 kq)))) (nI_or (by omega) (by omega)) ?_
                        refine lv_istore (lv' := [(4, .int (nI ((mCTk G (mCTr G (om aq ||| om bq) rq) kq) ||| (om (G 44 kq))))), (0, .ref (ad 28)), (1, .int (zI aq)), (2, .int (zI bq)), (3, .int (zI tq)), (5, .int (nI rq)), (6, .int (nI kq))]) hx hb dX10_comesTo_108 hl (by decide) rfl (fun ls hl => ?_)
                        refine lv_iload hx hb dX10_comesTo_110 (lv_at hl 0 rfl) ?_
                        have LLq140 : ∀  (yq : Nat) (hyq : yq = om (G 45 kq)) (H : Heap) (locs : List Loc) (ls : Array Slot), gH D base sM ad (50 + 2 * n) (gw cy ad n A J) H locs → lv_has ls 7 [(4, .int (nI ((mCTk G (mCTr G (om aq ||| om bq) rq) kq) ||| (om (G 44 kq))))), (0, .ref (ad 28)), (1, .int (zI aq)), (2, .int (zI bq)), (3, .int (zI tq)), (5, .int (nI rq)), (6, .int (nI kq))] → W pM l eM ({ frames := 0, cells := 0, slots := 0, locals := 0 } : Room) sM mM aM bM methM cM H locs 0 0 (MQ bM (gPost D cy base ad n (PX10_comesTo ad A J G aq bq tq)) aM sM 0 0 (fun q => base ≤ q)) (F0 mM 140 ls [.int (nI yq), .int (nI ((mCTk G (mCTr G (om aq ||| om bq) rq) kq) ||| (om (G 44 kq))))]) := by
                          intro yq hyq H locs ls hG hl
                          subst hyq
                          refine lv_ior hx hb dX10_comesTo_140 ?_
                          refine g_top (y := nI (((mCTk G (mCTr G (om aq ||| om bq) rq) kq) ||| (om (G 44 kq))) ||| (om (G 45 kq)))) (nI_or (by omega) (by omega)) ?_
                          refine lv_istore (lv' := [(4, .int (nI (((mCTk G (mCTr G (om aq ||| om bq) rq) kq) ||| (om (G 44 kq))) ||| (om (G 45 kq))))), (0, .ref (ad 28)), (1, .int (zI aq)), (2, .int (zI bq)), (3, .int (zI tq)), (5, .int (nI rq)), (6, .int (nI kq))]) hx hb dX10_comesTo_141 hl (by decide) rfl (fun ls hl => ?_)
                          exact LLq143 (((mCTk G (mCTr G (om aq ||| om bq) rq) kq) ||| (om (G 44 kq))) ||| (om (G 45 kq))) (by simp only [mCTk, mCT1]; first | rw [if_pos ⟨tbN_1.mp (by omega), by omega⟩] | rw [if_neg (fun z9 => by have y1 := tbN_1.mpr z9.1; have y2 := z9.2; omega)]) _ _ _ hG (lv_sub hl [1, 2, 3, 4, 0, 5, 6] rfl)
                        refine lv_aload_n hx hb dX10_comesTo_112 rfl (lv_at hl 1 rfl) ?_
                        refine g_get (C := RX10) (T := TX10) (NN := 35) (ci := 10) hx hb hts hinX10 hown hE hG (k := 28) (by omega) rfl rfl 30 (by decide) (hts (.fieldLink RX10 58 "CommutatorModel" "second" "[I") (List.mem_of_getElem? (i := 3) rfl)) rfl (v := .ref (ad 45)) rfl dX10_comesTo_113 ?_
                        refine lv_iload hx hb dX10_comesTo_116 (lv_at hl 6 rfl) ?_
                        refine g_iald hx hb hE hG (k := 45) (by omega) rfl kq (rfl) (by omega) (by omega) dX10_comesTo_118 ?_
                        refine g_top (y := zI (G 45 kq)) (hM 45 kq (by omega) (by omega) (by omega)) ?_
                        refine lv_bipush (v := nI 100) hx hb dX10_comesTo_119 (by decide) ?_
                        refine lv_icmp_lt (tgt := 139) hx hb dX10_comesTo_121 (by decide) (fun c121 => ?_) (fun c121 => ?_)
                        · skip
                          have c121 : (G 45 kq) < ((100 : Nat) : Int) := (cmp_lt (zI_toInt (by omega) (by omega)) (nI_toInt (by omega))).mp c121
                          refine lv_iconst (v := nI 0) hx hb dX10_comesTo_139 (by decide) ?_
                          exact LLq140 0 (by first | rfl | exact (om_0 (by omega)).symm) _ _ _ hG (lv_sub hl [0, 1, 2, 3, 4, 5, 6] rfl)
                        · skip
                          have c121 : ¬ ((G 45 kq) < ((100 : Nat) : Int)) := fun z9 => c121 ((cmp_lt (zI_toInt (by omega) (by omega)) (nI_toInt (by omega))).mpr z9)
                          refine lv_iconst (v := nI 1) hx hb dX10_comesTo_124 (by decide) ?_
                          refine lv_aload_n hx hb dX10_comesTo_125 rfl (lv_at hl 1 rfl) ?_
                          refine g_get (C := RX10) (T := TX10) (NN := 35) (ci := 10) hx hb hts hinX10 hown hE hG (k := 28) (by omega) rfl rfl 30 (by decide) (hts (.fieldLink RX10 58 "CommutatorModel" "second" "[I") (List.mem_of_getElem? (i := 3) rfl)) rfl (v := .ref (ad 45)) rfl dX10_comesTo_126 ?_
                          refine lv_iload hx hb dX10_comesTo_129 (lv_at hl 6 rfl) ?_
                          refine g_iald hx hb hE hG (k := 45) (by omega) rfl kq (rfl) (by omega) (by omega) dX10_comesTo_131 ?_
                          refine g_top (y := zI (G 45 kq)) (hM 45 kq (by omega) (by omega) (by omega)) ?_
                          refine lv_bipush (v := nI 100) hx hb dX10_comesTo_132 (by decide) ?_
                          refine lv_isub hx hb dX10_comesTo_134 ?_
                          refine g_top (y := zI ((G 45 kq) - 100)) (zI_sub_in _ _) ?_
                          refine lv_ishl hx hb dX10_comesTo_135 ?_
                          refine g_top (y := nI (om (G 45 kq))) (shl_om (by omega) (by omega)) ?_
                          refine lv_goto (tgt := 140) hx hb dX10_comesTo_136 (by decide) ?_
                          exact LLq140 (om (G 45 kq)) (by first | rfl | exact (om_0 (by omega)).symm) _ _ _ hG (lv_sub hl [0, 1, 2, 3, 4, 5, 6] rfl)
                      refine lv_aload_n hx hb dX10_comesTo_79 rfl (lv_at hl 0 rfl) ?_
                      refine g_get (C := RX10) (T := TX10) (NN := 35) (ci := 10) hx hb hts hinX10 hown hE hG (k := 28) (by omega) rfl rfl 29 (by decide) (hts (.fieldLink RX10 55 "CommutatorModel" "first" "[I") (List.mem_of_getElem? (i := 2) rfl)) rfl (v := .ref (ad 44)) rfl dX10_comesTo_80 ?_
                      refine lv_iload hx hb dX10_comesTo_83 (lv_at hl 6 rfl) ?_
                      refine g_iald hx hb hE hG (k := 44) (by omega) rfl kq (rfl) (by omega) (by omega) dX10_comesTo_85 ?_
                      refine g_top (y := zI (G 44 kq)) (hM 44 kq (by omega) (by omega) (by omega)) ?_
                      refine lv_bipush (v := nI 100) hx hb dX10_comesTo_86 (by decide) ?_
                      refine lv_icmp_lt (tgt := 106) hx hb dX10_comesTo_88 (by decide) (fun c88 => ?_) (fun c88 => ?_)
                      · skip
                        have c88 : (G 44 kq) < ((100 : Nat) : Int) := (cmp_lt (zI_toInt (by omega) (by omega)) (nI_toInt (by omega))).mp c88
                        refine lv_iconst (v := nI 0) hx hb dX10_comesTo_106 (by decide) ?_
                        exact LLq107 0 (by first | rfl | exact (om_0 (by omega)).symm) _ _ _ hG (lv_sub hl [0, 1, 2, 3, 4, 5, 6] rfl)
                      · skip
                        have c88 : ¬ ((G 44 kq) < ((100 : Nat) : Int)) := fun z9 => c88 ((cmp_lt (zI_toInt (by omega) (by omega)) (nI_toInt (by omega))).mpr z9)
                        refine lv_iconst (v := nI 1) hx hb dX10_comesTo_91 (by decide) ?_
                        refine lv_aload_n hx hb dX10_comesTo_92 rfl (lv_at hl 0 rfl) ?_
                        refine g_get (C := RX10) (T := TX10) (NN := 35) (ci := 10) hx hb hts hinX10 hown hE hG (k := 28) (by omega) rfl rfl 29 (by decide) (hts (.fieldLink RX10 55 "CommutatorModel" "first" "[I") (List.mem_of_getElem? (i := 2) rfl)) rfl (v := .ref (ad 44)) rfl dX10_comesTo_93 ?_
                        refine lv_iload hx hb dX10_comesTo_96 (lv_at hl 6 rfl) ?_
                        refine g_iald hx hb hE hG (k := 44) (by omega) rfl kq (rfl) (by omega) (by omega) dX10_comesTo_98 ?_
                        refine g_top (y := zI (G 44 kq)) (hM 44 kq (by omega) (by omega) (by omega)) ?_
                        refine lv_bipush (v := nI 100) hx hb dX10_comesTo_99 (by decide) ?_
                        refine lv_isub hx hb dX10_comesTo_101 ?_
                        refine g_top (y := zI ((G 44 kq) - 100)) (zI_sub_in _ _) ?_
                        refine lv_ishl hx hb dX10_comesTo_102 ?_
                        refine g_top (y := nI (om (G 44 kq))) (shl_om (by omega) (by omega)) ?_
                        refine lv_goto (tgt := 107) hx hb dX10_comesTo_103 (by decide) ?_
                        exact LLq107 (om (G 44 kq)) (by first | rfl | exact (om_0 (by omega)).symm) _ _ _ hG (lv_sub hl [0, 1, 2, 3, 4, 5, 6] rfl)
            exact LLq48 _ 0 (by omega) (Nat.lt_succ_self _) _ _ _ hG (lv_sub hl [1, 2, 3, 4, 5, 6, 0] rfl)
      exact LLq38 _ 0 (by omega) (Nat.lt_succ_self _) _ _ _ hG (lv_sub hl [2, 3, 4, 5, 1, 0] rfl)
    refine lv_iload_n hx hb dX10_comesTo_16 rfl (lv_at hl 2 rfl) ?_
    refine lv_bipush (v := nI 100) hx hb dX10_comesTo_17 (by decide) ?_
    refine lv_icmp_lt (tgt := 31) hx hb dX10_comesTo_19 (by decide) (fun c19 => ?_) (fun c19 => ?_)
    · skip
      have c19 : bq < ((100 : Nat) : Int) := (cmp_lt (zI_toInt (by omega) (by omega)) (nI_toInt (by omega))).mp c19
      refine lv_iconst (v := nI 0) hx hb dX10_comesTo_31 (by decide) ?_
      exact LLq32 0 (by first | rfl | exact (om_0 (by omega)).symm) _ _ _ hG (lv_sub hl [0, 1, 2, 3] rfl)
    · skip
      have c19 : ¬ (bq < ((100 : Nat) : Int)) := fun z9 => c19 ((cmp_lt (zI_toInt (by omega) (by omega)) (nI_toInt (by omega))).mpr z9)
      refine lv_iconst (v := nI 1) hx hb dX10_comesTo_22 (by decide) ?_
      refine lv_iload_n hx hb dX10_comesTo_23 rfl (lv_at hl 2 rfl) ?_
      refine lv_bipush (v := nI 100) hx hb dX10_comesTo_24 (by decide) ?_
      refine lv_isub hx hb dX10_comesTo_26 ?_
      refine g_top (y := zI (bq - 100)) (zI_sub_in _ _) ?_
      refine lv_ishl hx hb dX10_comesTo_27 ?_
      refine g_top (y := nI (om (bq))) (shl_om (by omega) (by omega)) ?_
      refine lv_goto (tgt := 32) hx hb dX10_comesTo_28 (by decide) ?_
      exact LLq32 (om (bq)) (by first | rfl | exact (om_0 (by omega)).symm) _ _ _ hG (lv_sub hl [0, 1, 2, 3] rfl)
  refine lv_iload_n hx hb dX10_comesTo_0 rfl (lv_at hl 1 rfl) ?_
  refine lv_bipush (v := nI 100) hx hb dX10_comesTo_1 (by decide) ?_
  refine lv_icmp_lt (tgt := 15) hx hb dX10_comesTo_3 (by decide) (fun c3 => ?_) (fun c3 => ?_)
  · skip
    have c3 : aq < ((100 : Nat) : Int) := (cmp_lt (zI_toInt (by omega) (by omega)) (nI_toInt (by omega))).mp c3
    refine lv_iconst (v := nI 0) hx hb dX10_comesTo_15 (by decide) ?_
    exact LLq16 0 (by first | rfl | exact (om_0 (by omega)).symm) _ _ _ hG (lv_sub hl [0, 1, 2, 3] rfl)
  · skip
    have c3 : ¬ (aq < ((100 : Nat) : Int)) := fun z9 => c3 ((cmp_lt (zI_toInt (by omega) (by omega)) (nI_toInt (by omega))).mpr z9)
    refine lv_iconst (v := nI 1) hx hb dX10_comesTo_6 (by decide) ?_
    refine lv_iload_n hx hb dX10_comesTo_7 rfl (lv_at hl 1 rfl) ?_
    refine lv_bipush (v := nI 100) hx hb dX10_comesTo_8 (by decide) ?_
    refine lv_isub hx hb dX10_comesTo_10 ?_
    refine g_top (y := zI (aq - 100)) (zI_sub_in _ _) ?_
    refine lv_ishl hx hb dX10_comesTo_11 ?_
    refine g_top (y := nI (om (aq))) (shl_om (by omega) (by omega)) ?_
    refine lv_goto (tgt := 16) hx hb dX10_comesTo_12 (by decide) ?_
    exact LLq16 (om (aq)) (by first | rfl | exact (om_0 (by omega)).symm) _ _ _ hG (lv_sub hl [0, 1, 2, 3] rfl)

abbrev PX10_derive (ad : Nat → Nat) (A : Nat → Nat → Int32) (J : Nat → Nat → Int64) (G : Nat → Nat → Int) (dq oq fq sq : Int) : Option Value → (Nat → Nat → Int32) → (Nat → Nat → Int64) → Prop := fun v_ A1 J1 => (v_ = none ∧ gu A 28 34 (nI 1) = A1 ∧ J = J1 ∧ (¬ (0 ≤ dq ∧ dq ≤ 7 ∧ 0 ≤ oq ∧ oq ≤ 4 ∧ isOp fq ∧ isOp sq))) ∨ (v_ = none ∧ gu A 28 34 (nI 2) = A1 ∧ J = J1 ∧ (0 ≤ dq ∧ dq ≤ 7 ∧ 0 ≤ oq ∧ oq ≤ 4 ∧ isOp fq ∧ isOp sq) ∧ ((mReach G fq sq).testBit dq.toNat = true)) ∨ (v_ = none ∧ gu (gu (gu (gu A 28 34 (nI 0)) 43 dq.toNat (zI oq)) 44 dq.toNat (zI fq)) 45 dq.toNat (zI sq) = A1 ∧ J = J1 ∧ (0 ≤ dq ∧ dq ≤ 7 ∧ 0 ≤ oq ∧ oq ≤ 4 ∧ isOp fq ∧ isOp sq) ∧ (¬ (mReach G fq sq).testBit dq.toNat = true))
set_option maxHeartbeats 4000000 in
set_option maxRecDepth 100000 in
theorem cX10_deriveC (l : Launch) (D : va_G) (cy : Nat → ClassId) (base : Nat) (ad : Nat → Nat) (n : Nat) (A : Nat → Nat → Int32) (J : Nat → Nat → Int64) (G : Nat → Nat → Int) (dq oq fq sq : Int) (hM : MRep A G) (hdv : mDvOk G) (hdq9 : -2147483648 ≤ dq ∧ dq < 2147483648) (hoq9 : -2147483648 ≤ oq ∧ oq < 2147483648) (hfq9 : -2147483648 ≤ fq ∧ fq < 2147483648) (hsq9 : -2147483648 ≤ sq ∧ sq < 2147483648) : gMet l yX10_derive wsX10_derive ({ frames := 2, cells := 0, slots := 0, locals := 42 } : Room) D cy base ad n A J [.ref (ad 28), .int (zI dq), .int (zI oq), .int (zI fq), .int (zI sq)] (PX10_derive ad A J G dq oq fq sq) := by
  refine g_ofW (cc := cX10_derive) (maxL := 6) (ret := none) (by decide) rfl (Nat.le_of_ble_eq_true rfl) ?_
  intro pM eM sM mM aM bM methM cM H locs ls hx hb hr hts hown hlocks hml hE hG hl
  have hl : lv_has ls 6 [(0, .ref (ad 28)), (1, .int (zI dq)), (2, .int (zI oq)), (3, .int (zI fq)), (4, .int (zI sq))] := hl
  have hinX10 : ∀ w ∈ u_ws RX10 TX10 35, w ∈ wsX10_derive := by decide +kernel
  have hzdq := zI_toInt (z := dq) hdq9.1 hdq9.2
  have hzoq := zI_toInt (z := oq) hoq9.1 hoq9.2
  have hzfq := zI_toInt (z := fq) hfq9.1 hfq9.2
  have hzsq := zI_toInt (z := sq) hsq9.1 hsq9.2
  have LLq39 : ∀  (bq : Nat) (hbq : (bq = 1 ∧ (0 ≤ dq ∧ dq ≤ 7 ∧ 0 ≤ oq ∧ oq ≤ 4 ∧ isOp fq ∧ isOp sq)) ∨ (bq = 0 ∧ ¬ (0 ≤ dq ∧ dq ≤ 7 ∧ 0 ≤ oq ∧ oq ≤ 4 ∧ isOp fq ∧ isOp sq))) (H : Heap) (locs : List Loc) (ls : Array Slot), gH D base sM ad (50 + 2 * n) (gw cy ad n A J) H locs → lv_has ls 6 [(0, .ref (ad 28)), (1, .int (zI dq)), (2, .int (zI oq)), (3, .int (zI fq)), (4, .int (zI sq))] → W pM l eM ({ frames := 2, cells := 0, slots := 0, locals := 42 } : Room) sM mM aM bM methM cM H locs 0 0 (MQ bM (gPost D cy base ad n (PX10_derive ad A J G dq oq fq sq)) aM sM 0 0 (fun q => base ≤ q)) (F0 mM 39 ls [.int (nI bq)]) := by
    intro bq hbq H locs ls hG hl
    refine lv_istore (lv' := [(5, .int (nI bq)), (0, .ref (ad 28)), (1, .int (zI dq)), (2, .int (zI oq)), (3, .int (zI fq)), (4, .int (zI sq))]) hx hb dX10_derive_39 hl (by decide) rfl (fun ls hl => ?_)
    refine lv_aload_n hx hb dX10_derive_41 rfl (lv_at hl 1 rfl) ?_
    refine lv_iload hx hb dX10_derive_42 (lv_at hl 0 rfl) ?_
    refine lv_if_ne (tgt := 51) hx hb dX10_derive_44 (by decide) (fun c44 => ?_) (fun c44 => ?_)
    · skip
      have c44 : ¬ ((nI bq) = nI 0) := c44
      have c44 : ¬ (bq = 0) := fun z9 => c44 ((nI_eq (by omega) (by omega)).mpr z9)
      have hgd := (hbq.resolve_right (fun h9 => by omega)).2
      refine lv_aload_n hx hb dX10_derive_51 rfl (lv_at hl 1 rfl) ?_
      refine lv_iload_n hx hb dX10_derive_52 rfl (lv_at hl 4 rfl) ?_
      refine lv_iload hx hb dX10_derive_53 (lv_at hl 5 rfl) ?_
      refine lv_iload_n hx hb dX10_derive_55 rfl (lv_at hl 2 rfl) ?_
      refine g_callV (As := [.int (zI fq), .int (zI sq), .int (zI dq)]) (rest := [.ref (ad 28)]) (r := (RX10, TX10, 35)) ⟨hx, hb, hml, hown, hts⟩ hE hG (cX10_comesToC l D cy base ad n A J G fq sq dq (by first | exact hM | exact hM.st | exact hM.pa | exact hM.th _ | exact (hM.th _).st | exact (hM.th _).pa | exact (hM.th _).th _ | exact ((hM.th _).th _).st) (by first | assumption | omega) hgd.2.2.2.2.1 hgd.2.2.2.2.2 (by omega)) (cwV 3 hts gX10_derive_X10_comesTo rfl rfl rfl (by decide +kernel) ⟨Nat.le_of_ble_eq_true rfl, Nat.le_of_ble_eq_true rfl⟩) (by omega) rfl rfl rfl hl.1 rfl (Nat.le_of_ble_eq_true rfl) dX10_derive_56 ⟨Nat.zero_le _, Nat.zero_le _⟩ (fun v_ A56 J56 H locs hp hG => ?_)
      rcases hp with ⟨rfl, rfl, rfl, hC_56⟩ | ⟨rfl, rfl, rfl, hC_56⟩
      · refine W.eq (g2 := F0 mM 59 ls [.int (nI 1), .ref (ad 28)]) rfl ?_
        refine lv_if_eq (tgt := 66) hx hb dX10_derive_59 (by decide) (fun c59 => ?_) (fun c59 => ?_)
        · skip
          exact absurd c59 (by decide)
        · skip
          refine lv_iconst (v := nI 2) hx hb dX10_derive_62 (by decide) ?_
          refine lv_goto (tgt := 67) hx hb dX10_derive_63 (by decide) ?_
          refine g_callV (As := [.int (nI 2)]) (rest := []) (r := (RX10, TX10, 35)) ⟨hx, hb, hml, hown, hts⟩ hE hG (cX10_canC l D cy base ad n A J 2 (by first | assumption | omega)) (cwV 1 hts gX10_derive_X10_can rfl rfl rfl (by decide +kernel) ⟨Nat.le_of_ble_eq_true rfl, Nat.le_of_ble_eq_true rfl⟩) (by omega) rfl rfl rfl hl.1 rfl (Nat.le_of_ble_eq_true rfl) dX10_derive_67 ⟨Nat.zero_le _, Nat.zero_le _⟩ (fun v_ A67 J67 H locs hp hG => ?_)
          rcases hp with ⟨rfl, rfl, rfl, hC_67⟩ | ⟨rfl, rfl, rfl, hC_67⟩
          · exact absurd hC_67 (by decide)
          · refine W.eq (g2 := F0 mM 70 ls [.int (nI 0)]) rfl ?_
            refine lv_if_eq (tgt := 95) hx hb dX10_derive_70 (by decide) (fun c70 => ?_) (fun c70 => ?_)
            · skip
              exact g_vret hx hb hr hlocks hG (by first | exact Or.inl ⟨rfl, rfl, rfl, (hbq.resolve_left (fun h9 => by omega)).2⟩ | exact Or.inr (Or.inl ⟨rfl, rfl, rfl, hgd, hC_56⟩) | exact Or.inr (Or.inr ⟨rfl, rfl, rfl, hgd, hC_56⟩)) dX10_derive_95
            · skip
              exact absurd c70 (by decide)
      · refine W.eq (g2 := F0 mM 59 ls [.int (nI 0), .ref (ad 28)]) rfl ?_
        refine lv_if_eq (tgt := 66) hx hb dX10_derive_59 (by decide) (fun c59 => ?_) (fun c59 => ?_)
        · skip
          refine lv_iconst (v := nI 0) hx hb dX10_derive_66 (by decide) ?_
          refine g_callV (As := [.int (nI 0)]) (rest := []) (r := (RX10, TX10, 35)) ⟨hx, hb, hml, hown, hts⟩ hE hG (cX10_canC l D cy base ad n A J 0 (by first | assumption | omega)) (cwV 1 hts gX10_derive_X10_can rfl rfl rfl (by decide +kernel) ⟨Nat.le_of_ble_eq_true rfl, Nat.le_of_ble_eq_true rfl⟩) (by omega) rfl rfl rfl hl.1 rfl (Nat.le_of_ble_eq_true rfl) dX10_derive_67 ⟨Nat.zero_le _, Nat.zero_le _⟩ (fun v_ A67 J67 H locs hp hG => ?_)
          rcases hp with ⟨rfl, rfl, rfl, hC_67⟩ | ⟨rfl, rfl, rfl, hC_67⟩
          · refine W.eq (g2 := F0 mM 70 ls [.int (nI 1)]) rfl ?_
            refine lv_if_eq (tgt := 95) hx hb dX10_derive_70 (by decide) (fun c70 => ?_) (fun c70 => ?_)
            · skip
              exact absurd c70 (by decide)
            · skip
              refine lv_aload_n hx hb dX10_derive_73 rfl (lv_at hl 1 rfl) ?_
              refine g_get (C := RX10) (T := TX10) (NN := 35) (ci := 10) hx hb hts hinX10 hown hE hG (k := 28) (by omega) rfl rfl 28 (by decide) (hts (.fieldLink RX10 52 "CommutatorModel" "operation" "[I") (List.mem_of_getElem? (i := 1) rfl)) rfl (v := .ref (ad 43)) rfl dX10_derive_74 ?_
              refine lv_iload_n hx hb dX10_derive_77 rfl (lv_at hl 2 rfl) ?_
              refine lv_iload_n hx hb dX10_derive_78 rfl (lv_at hl 3 rfl) ?_
              refine g_iast hx hb hE hG (k := 43) (by omega) (fun _ => rfl) dq.toNat (zI_nat (by omega)) (by omega) (by omega) dX10_derive_79 (fun H locs hG => ?_)
              refine lv_aload_n hx hb dX10_derive_80 rfl (lv_at hl 1 rfl) ?_
              refine g_get (C := RX10) (T := TX10) (NN := 35) (ci := 10) hx hb hts hinX10 hown hE hG (k := 28) (by omega) rfl rfl 29 (by decide) (hts (.fieldLink RX10 55 "CommutatorModel" "first" "[I") (List.mem_of_getElem? (i := 2) rfl)) rfl (v := .ref (ad 44)) rfl dX10_derive_81 ?_
              refine lv_iload_n hx hb dX10_derive_84 rfl (lv_at hl 2 rfl) ?_
              refine lv_iload_n hx hb dX10_derive_85 rfl (lv_at hl 4 rfl) ?_
              refine g_iast hx hb hE hG (k := 44) (by omega) (fun _ => rfl) dq.toNat (zI_nat (by omega)) (by omega) (by omega) dX10_derive_86 (fun H locs hG => ?_)
              refine lv_aload_n hx hb dX10_derive_87 rfl (lv_at hl 1 rfl) ?_
              refine g_get (C := RX10) (T := TX10) (NN := 35) (ci := 10) hx hb hts hinX10 hown hE hG (k := 28) (by omega) rfl rfl 30 (by decide) (hts (.fieldLink RX10 58 "CommutatorModel" "second" "[I") (List.mem_of_getElem? (i := 3) rfl)) rfl (v := .ref (ad 45)) rfl dX10_derive_88 ?_
              refine lv_iload_n hx hb dX10_derive_91 rfl (lv_at hl 2 rfl) ?_
              refine lv_iload hx hb dX10_derive_92 (lv_at hl 5 rfl) ?_
              refine g_iast hx hb hE hG (k := 45) (by omega) (fun _ => rfl) dq.toNat (zI_nat (by omega)) (by omega) (by omega) dX10_derive_94 (fun H locs hG => ?_)
              exact g_vret hx hb hr hlocks hG (by first | exact Or.inl ⟨rfl, rfl, rfl, (hbq.resolve_left (fun h9 => by omega)).2⟩ | exact Or.inr (Or.inl ⟨rfl, rfl, rfl, hgd, hC_56⟩) | exact Or.inr (Or.inr ⟨rfl, rfl, rfl, hgd, hC_56⟩)) dX10_derive_95
          · exact absurd hC_67 (by decide)
        · skip
          exact absurd c59 (by decide)
    · skip
      have c44 : (nI bq) = nI 0 := c44
      have c44 : bq = 0 := (nI_eq (by omega) (by omega)).mp c44
      refine lv_iconst (v := nI 1) hx hb dX10_derive_47 (by decide) ?_
      refine lv_goto (tgt := 67) hx hb dX10_derive_48 (by decide) ?_
      refine g_callV (As := [.int (nI 1)]) (rest := []) (r := (RX10, TX10, 35)) ⟨hx, hb, hml, hown, hts⟩ hE hG (cX10_canC l D cy base ad n A J 1 (by first | assumption | omega)) (cwV 1 hts gX10_derive_X10_can rfl rfl rfl (by decide +kernel) ⟨Nat.le_of_ble_eq_true rfl, Nat.le_of_ble_eq_true rfl⟩) (by omega) rfl rfl rfl hl.1 rfl (Nat.le_of_ble_eq_true rfl) dX10_derive_67 ⟨Nat.zero_le _, Nat.zero_le _⟩ (fun v_ A67 J67 H locs hp hG => ?_)
      rcases hp with ⟨rfl, rfl, rfl, hC_67⟩ | ⟨rfl, rfl, rfl, hC_67⟩
      · exact absurd hC_67 (by decide)
      · refine W.eq (g2 := F0 mM 70 ls [.int (nI 0)]) rfl ?_
        refine lv_if_eq (tgt := 95) hx hb dX10_derive_70 (by decide) (fun c70 => ?_) (fun c70 => ?_)
        · skip
          exact g_vret hx hb hr hlocks hG (by first | exact Or.inl ⟨rfl, rfl, rfl, (hbq.resolve_left (fun h9 => by omega)).2⟩ | exact Or.inr (Or.inl ⟨rfl, rfl, rfl, hgd, hC_56⟩) | exact Or.inr (Or.inr ⟨rfl, rfl, rfl, hgd, hC_56⟩)) dX10_derive_95
        · skip
          exact absurd c70 (by decide)
  refine lv_iload_n hx hb dX10_derive_0 rfl (lv_at hl 1 rfl) ?_
  refine lv_iconst (v := nI 0) hx hb dX10_derive_1 (by decide) ?_
  refine lv_bipush (v := nI 7) hx hb dX10_derive_2 (by decide) ?_
  refine g_callS (As := [.int (zI dq), .int (nI 0), .int (nI 7)]) (rest := []) ⟨hx, hb, hml, hown, hts⟩ hE hG (cX10_isInC l D cy base ad n A J (zI dq) 0 7 (by first | assumption | omega) (by first | assumption | omega) (by first | assumption | omega) (by first | assumption | omega)) (va_cwS 3 hts gX10_derive_X10_isIn rfl rfl rfl (by decide +kernel) ⟨Nat.le_of_ble_eq_true rfl, Nat.le_of_ble_eq_true rfl⟩) rfl hl.1 rfl (Nat.le_of_ble_eq_true rfl) dX10_derive_4 ⟨Nat.zero_le _, Nat.zero_le _⟩ (fun v_ A4 J4 H locs hp hG => ?_)
  rcases hp with ⟨rfl, rfl, rfl, hC_4⟩ | ⟨rfl, rfl, rfl, hC_4⟩
  · refine W.eq (g2 := F0 mM 7 ls [.int (nI 1)]) rfl ?_
    refine lv_if_eq (tgt := 38) hx hb dX10_derive_7 (by decide) (fun c7 => ?_) (fun c7 => ?_)
    · skip
      exact absurd c7 (by decide)
    · skip
      refine lv_iload_n hx hb dX10_derive_10 rfl (lv_at hl 2 rfl) ?_
      refine lv_iconst (v := nI 0) hx hb dX10_derive_11 (by decide) ?_
      refine lv_iconst (v := nI 4) hx hb dX10_derive_12 (by decide) ?_
      refine g_callS (As := [.int (zI oq), .int (nI 0), .int (nI 4)]) (rest := []) ⟨hx, hb, hml, hown, hts⟩ hE hG (cX10_isInC l D cy base ad n A J (zI oq) 0 4 (by first | assumption | omega) (by first | assumption | omega) (by first | assumption | omega) (by first | assumption | omega)) (va_cwS 3 hts gX10_derive_X10_isIn rfl rfl rfl (by decide +kernel) ⟨Nat.le_of_ble_eq_true rfl, Nat.le_of_ble_eq_true rfl⟩) rfl hl.1 rfl (Nat.le_of_ble_eq_true rfl) dX10_derive_13 ⟨Nat.zero_le _, Nat.zero_le _⟩ (fun v_ A13 J13 H locs hp hG => ?_)
      rcases hp with ⟨rfl, rfl, rfl, hC_13⟩ | ⟨rfl, rfl, rfl, hC_13⟩
      · refine W.eq (g2 := F0 mM 16 ls [.int (nI 1)]) rfl ?_
        refine lv_if_eq (tgt := 38) hx hb dX10_derive_16 (by decide) (fun c16 => ?_) (fun c16 => ?_)
        · skip
          exact absurd c16 (by decide)
        · skip
          refine lv_iload_n hx hb dX10_derive_19 rfl (lv_at hl 3 rfl) ?_
          refine g_callS (As := [.int (zI fq)]) (rest := []) ⟨hx, hb, hml, hown, hts⟩ hE hG (cX10_isOperandC l D cy base ad n A J (zI fq)) (va_cwS 1 hts gX10_derive_X10_isOperand rfl rfl rfl (by decide +kernel) ⟨Nat.le_of_ble_eq_true rfl, Nat.le_of_ble_eq_true rfl⟩) rfl hl.1 rfl (Nat.le_of_ble_eq_true rfl) dX10_derive_20 ⟨Nat.zero_le _, Nat.zero_le _⟩ (fun v_ A20 J20 H locs hp hG => ?_)
          rcases hp with ⟨rfl, rfl, rfl, hC_20⟩ | ⟨rfl, rfl, rfl, hC_20⟩
          · refine W.eq (g2 := F0 mM 23 ls [.int (nI 1)]) rfl ?_
            refine lv_if_eq (tgt := 38) hx hb dX10_derive_23 (by decide) (fun c23 => ?_) (fun c23 => ?_)
            · skip
              exact absurd c23 (by decide)
            · skip
              refine lv_iload hx hb dX10_derive_26 (lv_at hl 4 rfl) ?_
              refine g_callS (As := [.int (zI sq)]) (rest := []) ⟨hx, hb, hml, hown, hts⟩ hE hG (cX10_isOperandC l D cy base ad n A J (zI sq)) (va_cwS 1 hts gX10_derive_X10_isOperand rfl rfl rfl (by decide +kernel) ⟨Nat.le_of_ble_eq_true rfl, Nat.le_of_ble_eq_true rfl⟩) rfl hl.1 rfl (Nat.le_of_ble_eq_true rfl) dX10_derive_28 ⟨Nat.zero_le _, Nat.zero_le _⟩ (fun v_ A28 J28 H locs hp hG => ?_)
              rcases hp with ⟨rfl, rfl, rfl, hC_28⟩ | ⟨rfl, rfl, rfl, hC_28⟩
              · refine W.eq (g2 := F0 mM 31 ls [.int (nI 1)]) rfl ?_
                refine lv_if_eq (tgt := 38) hx hb dX10_derive_31 (by decide) (fun c31 => ?_) (fun c31 => ?_)
                · skip
                  exact absurd c31 (by decide)
                · skip
                  refine lv_iconst (v := nI 1) hx hb dX10_derive_34 (by decide) ?_
                  refine lv_goto (tgt := 39) hx hb dX10_derive_35 (by decide) ?_
                  exact LLq39 1 (by unfold isOp; omega) _ _ _ hG (lv_sub hl [0, 1, 2, 3, 4] rfl)
              · refine W.eq (g2 := F0 mM 31 ls [.int (nI 0)]) rfl ?_
                refine lv_if_eq (tgt := 38) hx hb dX10_derive_31 (by decide) (fun c31 => ?_) (fun c31 => ?_)
                · skip
                  refine lv_iconst (v := nI 0) hx hb dX10_derive_38 (by decide) ?_
                  exact LLq39 0 (by unfold isOp; omega) _ _ _ hG (lv_sub hl [0, 1, 2, 3, 4] rfl)
                · skip
                  exact absurd c31 (by decide)
          · refine W.eq (g2 := F0 mM 23 ls [.int (nI 0)]) rfl ?_
            refine lv_if_eq (tgt := 38) hx hb dX10_derive_23 (by decide) (fun c23 => ?_) (fun c23 => ?_)
            · skip
              refine lv_iconst (v := nI 0) hx hb dX10_derive_38 (by decide) ?_
              exact LLq39 0 (by unfold isOp; omega) _ _ _ hG (lv_sub hl [0, 1, 2, 3, 4] rfl)
            · skip
              exact absurd c23 (by decide)
      · refine W.eq (g2 := F0 mM 16 ls [.int (nI 0)]) rfl ?_
        refine lv_if_eq (tgt := 38) hx hb dX10_derive_16 (by decide) (fun c16 => ?_) (fun c16 => ?_)
        · skip
          refine lv_iconst (v := nI 0) hx hb dX10_derive_38 (by decide) ?_
          exact LLq39 0 (by unfold isOp; omega) _ _ _ hG (lv_sub hl [0, 1, 2, 3, 4] rfl)
        · skip
          exact absurd c16 (by decide)
  · refine W.eq (g2 := F0 mM 7 ls [.int (nI 0)]) rfl ?_
    refine lv_if_eq (tgt := 38) hx hb dX10_derive_7 (by decide) (fun c7 => ?_) (fun c7 => ?_)
    · skip
      refine lv_iconst (v := nI 0) hx hb dX10_derive_38 (by decide) ?_
      exact LLq39 0 (by unfold isOp; omega) _ _ _ hG (lv_sub hl [0, 1, 2, 3, 4] rfl)
    · skip
      exact absurd c7 (by decide)

abbrev PX10_derives (ad : Nat → Nat) (A : Nat → Nat → Int32) (J : Nat → Nat → Int64) (G : Nat → Nat → Int) : Option Value → (Nat → Nat → Int32) → (Nat → Nat → Int64) → Prop := fun v_ A1 J1 => (v_ = none ∧ J = J1 ∧ (MRep A1 (mDers G)) ∧ (MOnly A A1) ∧ (A1 28 34 = A 28 34))
set_option maxHeartbeats 4000000 in
set_option maxRecDepth 100000 in
theorem cX10_derivesC (l : Launch) (D : va_G) (cy : Nat → ClassId) (base : Nat) (ad : Nat → Nat) (n : Nat) (A : Nat → Nat → Int32) (J : Nat → Nat → Int64) (G : Nat → Nat → Int) (hM : MRep A G) (hdv : mDvOk G) (hdr : mDrOk G) (hn : 0 ≤ G 28 0 ∧ G 28 0 ≤ 12) (hs : ∀ j, 0 ≤ G 41 j ∧ G 41 j < 1000000) : gMet l yX10_derives wsX10_derives ({ frames := 1, cells := 0, slots := 0, locals := 26 } : Room) D cy base ad n A J [.ref (ad 28)] (PX10_derives ad A J G) := by
  refine g_ofW (cc := cX10_derives) (maxL := 3) (ret := none) (by decide) rfl (Nat.le_of_ble_eq_true rfl) ?_
  intro pM eM sM mM aM bM methM cM H locs ls hx hb hr hts hown hlocks hml hE hG hl
  have hl : lv_has ls 3 [(0, .ref (ad 28))] := hl
  have hinX10 : ∀ w ∈ u_ws RX10 TX10 35, w ∈ wsX10_derives := by decide +kernel
  refine lv_iconst (v := nI 0) hx hb dX10_derives_0 (by decide) ?_
  refine lv_istore_n (lv' := [(1, .int (nI 0)), (0, .ref (ad 28))]) hx hb dX10_derives_1 rfl hl (by decide) rfl (fun ls hl => ?_)
  have LLq2 : ∀ (fuel : Nat) (cq : Nat) (Aq : Nat → Nat → Int32) (hcq : cq ≤ 8) (hR : MRep Aq (mClr G cq)) (hO : MOnly A Aq) (hth : Aq 28 34 = A 28 34) (_ : (8 - cq) < fuel) (H : Heap) (locs : List Loc) (ls : Array Slot), gH D base sM ad (50 + 2 * n) (gw cy ad n Aq J) H locs → lv_has ls 3 [(0, .ref (ad 28)), (1, .int (nI cq))] → W pM l eM ({ frames := 1, cells := 0, slots := 0, locals := 26 } : Room) sM mM aM bM methM cM H locs 0 0 (MQ bM (gPost D cy base ad n (PX10_derives ad A J G)) aM sM 0 0 (fun q => base ≤ q)) (F0 mM 2 ls []) := by
    intro fuel
    induction fuel with
    | zero => intro cq Aq hcq hR hO hth hms H locs ls hG hl; exact absurd hms (Nat.not_lt_zero _)
    | succ fuel ihq2 =>
      intro cq Aq hcq hR hO hth hms H locs ls hG hl
      refine lv_iload_n hx hb dX10_derives_2 rfl (lv_at hl 1 rfl) ?_
      refine lv_bipush (v := nI 8) hx hb dX10_derives_3 (by decide) ?_
      refine lv_icmp_ge (tgt := 21) hx hb dX10_derives_5 (by decide) (fun c5 => ?_) (fun c5 => ?_)
      · skip
        have c5 : 8 ≤ cq := (nI_leI (by omega) (by omega)).mp c5
        have hk9 : cq = 8 := by omega
        subst hk9
        refine lv_iconst (v := nI 0) hx hb dX10_derives_21 (by decide) ?_
        refine lv_istore_n (lv' := [(1, .int (nI 0)), (0, .ref (ad 28))]) hx hb dX10_derives_22 rfl hl (by decide) rfl (fun ls hl => ?_)
        have LLq23 : ∀ (fuel : Nat) (rq : Nat) (Aq : Nat → Nat → Int32) (hrq : rq ≤ 8) (hR : MRep Aq (mDerR (mClr G 8) rq)) (hO : MOnly A Aq) (hth : Aq 28 34 = A 28 34) (_ : (8 - rq) < fuel) (H : Heap) (locs : List Loc) (ls : Array Slot), gH D base sM ad (50 + 2 * n) (gw cy ad n Aq J) H locs → lv_has ls 3 [(0, .ref (ad 28)), (1, .int (nI rq))] → W pM l eM ({ frames := 1, cells := 0, slots := 0, locals := 26 } : Room) sM mM aM bM methM cM H locs 0 0 (MQ bM (gPost D cy base ad n (PX10_derives ad A J G)) aM sM 0 0 (fun q => base ≤ q)) (F0 mM 23 ls []) := by
          intro fuel
          induction fuel with
          | zero => intro rq Aq hrq hR hO hth hms H locs ls hG hl; exact absurd hms (Nat.not_lt_zero _)
          | succ fuel ihq23 =>
            intro rq Aq hrq hR hO hth hms H locs ls hG hl
            refine lv_iload_n hx hb dX10_derives_23 rfl (lv_at hl 1 rfl) ?_
            refine lv_bipush (v := nI 8) hx hb dX10_derives_24 (by decide) ?_
            refine lv_icmp_ge (tgt := 181) hx hb dX10_derives_26 (by decide) (fun c26 => ?_) (fun c26 => ?_)
            · skip
              have c26 : 8 ≤ rq := (nI_leI (by omega) (by omega)).mp c26
              have hk9 : rq = 8 := by omega
              subst hk9
              exact g_vret hx hb hr hlocks hG ⟨rfl, rfl, hR, hO, hth⟩ dX10_derives_181
            · skip
              have c26 : ¬ (8 ≤ rq) := fun z9 => c26 ((nI_leI (by omega) (by omega)).mpr z9)
              refine lv_iconst (v := nI 0) hx hb dX10_derives_29 (by decide) ?_
              refine lv_istore_n (lv' := [(2, .int (nI 0)), (0, .ref (ad 28)), (1, .int (nI rq))]) hx hb dX10_derives_30 rfl hl (by decide) rfl (fun ls hl => ?_)
              have LLq31 : ∀ (fuel : Nat) (kq : Nat) (Aq : Nat → Nat → Int32) (hkq : kq ≤ 8) (hR : MRep Aq (mDerK (mDerR (mClr G 8) rq) kq)) (hO : MOnly A Aq) (hth : Aq 28 34 = A 28 34) (_ : (8 - kq) < fuel) (H : Heap) (locs : List Loc) (ls : Array Slot), gH D base sM ad (50 + 2 * n) (gw cy ad n Aq J) H locs → lv_has ls 3 [(0, .ref (ad 28)), (1, .int (nI rq)), (2, .int (nI kq))] → W pM l eM ({ frames := 1, cells := 0, slots := 0, locals := 26 } : Room) sM mM aM bM methM cM H locs 0 0 (MQ bM (gPost D cy base ad n (PX10_derives ad A J G)) aM sM 0 0 (fun q => base ≤ q)) (F0 mM 31 ls []) := by
                intro fuel
                induction fuel with
                | zero => intro kq Aq hkq hR hO hth hms H locs ls hG hl; exact absurd hms (Nat.not_lt_zero _)
                | succ fuel ihq31 =>
                  intro kq Aq hkq hR hO hth hms H locs ls hG hl
                  have hkk : ∀ q9 j9, q9 < 46 → (mDerK (mDerR (mClr G 8) rq) kq) q9 j9 = G q9 j9 := fun q9 j9 h9 => ((mDerK_k _ _ j9 (by omega)).trans (mDerR_k _ _ j9 (by omega))).trans (mClr_k G 8 j9 (by omega))
                  have hdk : mDrOk (mDerK (mDerR (mClr G 8) rq) kq) := mDerK_ok (mDerR_ok (mClr_ok hdr 8) rq) kq
                  refine lv_iload_n hx hb dX10_derives_31 rfl (lv_at hl 2 rfl) ?_
                  refine lv_bipush (v := nI 8) hx hb dX10_derives_32 (by decide) ?_
                  refine lv_icmp_ge (tgt := 175) hx hb dX10_derives_34 (by decide) (fun c34 => ?_) (fun c34 => ?_)
                  · skip
                    have c34 : 8 ≤ kq := (nI_leI (by omega) (by omega)).mp c34
                    have hk9 : kq = 8 := by omega
                    subst hk9
                    refine lv_iinc (v := nI (rq + 1)) (lv' := [(1, .int (nI (rq + 1))), (0, .ref (ad 28)), (2, .int (nI 8))]) hx hb dX10_derives_175 hl (k := 1) rfl (by rw [show (Int32.ofInt 1 : Int32) = nI 1 from rfl, nI_add]) (by decide) rfl (fun ls hl => ?_)
                    refine lv_goto (tgt := 23) hx hb dX10_derives_178 (by decide) ?_
                    exact ihq23 (rq + 1) Aq (by omega) hR hO hth (by omega) _ _ _ hG (lv_sub hl [1, 0] rfl)
                  · skip
                    have c34 : ¬ (8 ≤ kq) := fun z9 => c34 ((nI_leI (by omega) (by omega)).mpr z9)
                    have hdq := hdv kq
                    have hmv4 := mVo_r hdk (G 44 kq)
                    have hmv5 := mVo_r hdk (G 45 kq)
                    have hmt4 := mTo_r hdk (G 44 kq)
                    have hmt5 := mTo_r hdk (G 45 kq)
                    have LLq169 : ∀  (Bq : Nat → Nat → Int32) (hRn : MRep Bq (mDerK (mDerR (mClr G 8) rq) (kq + 1))) (hOn : MOnly A Bq) (hthn : Bq 28 34 = A 28 34) (H : Heap) (locs : List Loc) (ls : Array Slot), gH D base sM ad (50 + 2 * n) (gw cy ad n Bq J) H locs → lv_has ls 3 [(0, .ref (ad 28)), (1, .int (nI rq)), (2, .int (nI kq))] → W pM l eM ({ frames := 1, cells := 0, slots := 0, locals := 26 } : Room) sM mM aM bM methM cM H locs 0 0 (MQ bM (gPost D cy base ad n (PX10_derives ad A J G)) aM sM 0 0 (fun q => base ≤ q)) (F0 mM 169 ls []) := by
                      intro Bq hRn hOn hthn H locs ls hG hl
                      refine lv_iinc (v := nI (kq + 1)) (lv' := [(2, .int (nI (kq + 1))), (0, .ref (ad 28)), (1, .int (nI rq))]) hx hb dX10_derives_169 hl (k := 2) rfl (by rw [show (Int32.ofInt 1 : Int32) = nI 1 from rfl, nI_add]) (by decide) rfl (fun ls hl => ?_)
                      refine lv_goto (tgt := 31) hx hb dX10_derives_172 (by decide) ?_
                      exact ihq31 (kq + 1) Bq (by omega) hRn hOn hthn (by omega) _ _ _ hG (lv_sub hl [1, 2, 0] rfl)
                    refine lv_aload_n hx hb dX10_derives_37 rfl (lv_at hl 0 rfl) ?_
                    refine g_get (C := RX10) (T := TX10) (NN := 35) (ci := 10) hx hb hts hinX10 hown hE hG (k := 28) (by omega) rfl rfl 28 (by decide) (hts (.fieldLink RX10 52 "CommutatorModel" "operation" "[I") (List.mem_of_getElem? (i := 2) rfl)) rfl (v := .ref (ad 43)) rfl dX10_derives_38 ?_
                    refine lv_iload_n hx hb dX10_derives_41 rfl (lv_at hl 2 rfl) ?_
                    refine g_iald hx hb hE hG (k := 43) (by omega) rfl kq (rfl) (by omega) (by omega) dX10_derives_42 ?_
                    refine g_top (y := zI (G 43 kq)) ((hR 43 _ (by omega) (by omega) (by omega)).trans (congrArg zI (hkk 43 _ (by omega)))) ?_
                    refine lv_iconst (v := zI (-1)) hx hb dX10_derives_43 (by decide) ?_
                    refine lv_icmp_eq (tgt := 169) hx hb dX10_derives_44 (by decide) (fun c44 => ?_) (fun c44 => ?_)
                    · skip
                      have c44 : (G 43 kq) = (-1) := (cmp_eq (zI_toInt (by omega) (by omega)) (zI_toInt (by omega) (by omega))).mp c44
                      exact LLq169 Aq (by rw [show mDerK (mDerR (mClr G 8) rq) (kq + 1) = mDer1 (mDerK (mDerR (mClr G 8) rq) kq) kq from rfl]; first | (rw [mDer1_f (hkk 43 kq (by omega)) (hkk 44 kq (by omega)) (hkk 45 kq (by omega)) (by first | exact Or.inl c44 | exact Or.inr (Or.inl hC_54) | exact Or.inr (Or.inr hC_67))]; exact hR) | (rw [mDer1_t (x := _) (hkk 43 kq (by omega)) (hkk 44 kq (by omega)) (hkk 45 kq (by omega)) c44 hC_54 hC_67 (by first | exact (if_pos (by omega)).symm | exact (if_neg (by omega)).symm)]; exact ((hR.up 46 kq 1).up 47 kq _).up 48 kq _)) (by first | exact hO | exact (((hO.up _ _ (by decide) (by decide)).up _ _ (by decide) (by decide)).up _ _ (by decide) (by decide))) (by first | exact hth | (rw [gu_at, if_neg (by omega), gu_at, if_neg (by omega), gu_at, if_neg (by omega)]; exact hth)) _ _ _ hG (lv_sub hl [0, 1, 2] rfl)
                    · skip
                      have c44 : ¬ ((G 43 kq) = (-1)) := fun z9 => c44 ((cmp_eq (zI_toInt (by omega) (by omega)) (zI_toInt (by omega) (by omega))).mpr z9)
                      refine lv_aload_n hx hb dX10_derives_47 rfl (lv_at hl 0 rfl) ?_
                      refine lv_aload_n hx hb dX10_derives_48 rfl (lv_at hl 0 rfl) ?_
                      refine g_get (C := RX10) (T := TX10) (NN := 35) (ci := 10) hx hb hts hinX10 hown hE hG (k := 28) (by omega) rfl rfl 29 (by decide) (hts (.fieldLink RX10 55 "CommutatorModel" "first" "[I") (List.mem_of_getElem? (i := 3) rfl)) rfl (v := .ref (ad 44)) rfl dX10_derives_49 ?_
                      refine lv_iload_n hx hb dX10_derives_52 rfl (lv_at hl 2 rfl) ?_
                      refine g_iald hx hb hE hG (k := 44) (by omega) rfl kq (rfl) (by omega) (by omega) dX10_derives_53 ?_
                      refine g_top (y := zI (G 44 kq)) ((hR 44 _ (by omega) (by omega) (by omega)).trans (congrArg zI (hkk 44 _ (by omega)))) ?_
                      refine g_callV (As := [.int (zI (G 44 kq))]) (rest := []) (r := (RX10, TX10, 35)) ⟨hx, hb, hml, hown, hts⟩ hE hG (cX10_hasValueC l D cy base ad n Aq J (mDerK (mDerR (mClr G 8) rq) kq) (G 44 kq) hR (by first | assumption | omega) hdk (by rw [hkk 28 0 (by omega)]; exact hn) (fun j9 => by rw [hkk 41 j9 (by omega)]; exact hs j9)) (cwV 1 hts gX10_derives_X10_hasValue rfl rfl rfl (by decide +kernel) ⟨Nat.le_of_ble_eq_true rfl, Nat.le_of_ble_eq_true rfl⟩) (by omega) rfl rfl rfl hl.1 rfl (Nat.le_of_ble_eq_true rfl) dX10_derives_54 ⟨Nat.zero_le _, Nat.zero_le _⟩ (fun v_ A54 J54 H locs hp hG => ?_)
                      rcases hp with ⟨rfl, rfl, rfl, hC_54⟩ | ⟨rfl, rfl, rfl, hC_54⟩
                      · refine W.eq (g2 := F0 mM 57 ls [.int (nI 1)]) rfl ?_
                        refine lv_if_eq (tgt := 169) hx hb dX10_derives_57 (by decide) (fun c57 => ?_) (fun c57 => ?_)
                        · skip
                          exact absurd c57 (by decide)
                        · skip
                          refine lv_aload_n hx hb dX10_derives_60 rfl (lv_at hl 0 rfl) ?_
                          refine lv_aload_n hx hb dX10_derives_61 rfl (lv_at hl 0 rfl) ?_
                          refine g_get (C := RX10) (T := TX10) (NN := 35) (ci := 10) hx hb hts hinX10 hown hE hG (k := 28) (by omega) rfl rfl 30 (by decide) (hts (.fieldLink RX10 58 "CommutatorModel" "second" "[I") (List.mem_of_getElem? (i := 4) rfl)) rfl (v := .ref (ad 45)) rfl dX10_derives_62 ?_
                          refine lv_iload_n hx hb dX10_derives_65 rfl (lv_at hl 2 rfl) ?_
                          refine g_iald hx hb hE hG (k := 45) (by omega) rfl kq (rfl) (by omega) (by omega) dX10_derives_66 ?_
                          refine g_top (y := zI (G 45 kq)) ((hR 45 _ (by omega) (by omega) (by omega)).trans (congrArg zI (hkk 45 _ (by omega)))) ?_
                          refine g_callV (As := [.int (zI (G 45 kq))]) (rest := []) (r := (RX10, TX10, 35)) ⟨hx, hb, hml, hown, hts⟩ hE hG (cX10_hasValueC l D cy base ad n Aq J (mDerK (mDerR (mClr G 8) rq) kq) (G 45 kq) hR (by first | assumption | omega) hdk (by rw [hkk 28 0 (by omega)]; exact hn) (fun j9 => by rw [hkk 41 j9 (by omega)]; exact hs j9)) (cwV 1 hts gX10_derives_X10_hasValue rfl rfl rfl (by decide +kernel) ⟨Nat.le_of_ble_eq_true rfl, Nat.le_of_ble_eq_true rfl⟩) (by omega) rfl rfl rfl hl.1 rfl (Nat.le_of_ble_eq_true rfl) dX10_derives_67 ⟨Nat.zero_le _, Nat.zero_le _⟩ (fun v_ A67 J67 H locs hp hG => ?_)
                          rcases hp with ⟨rfl, rfl, rfl, hC_67⟩ | ⟨rfl, rfl, rfl, hC_67⟩
                          · refine W.eq (g2 := F0 mM 70 ls [.int (nI 1)]) rfl ?_
                            refine lv_if_eq (tgt := 169) hx hb dX10_derives_70 (by decide) (fun c70 => ?_) (fun c70 => ?_)
                            · skip
                              exact absurd c70 (by decide)
                            · skip
                              refine lv_aload_n hx hb dX10_derives_73 rfl (lv_at hl 0 rfl) ?_
                              refine g_get (C := RX10) (T := TX10) (NN := 35) (ci := 10) hx hb hts hinX10 hown hE hG (k := 28) (by omega) rfl rfl 31 (by decide) (hts (.fieldLink RX10 61 "CommutatorModel" "isKnown" "[Z") (List.mem_of_getElem? (i := 1) rfl)) rfl (v := .ref (ad 46)) rfl dX10_derives_74 ?_
                              refine lv_iload_n hx hb dX10_derives_77 rfl (lv_at hl 2 rfl) ?_
                              refine lv_iconst (v := nI 1) hx hb dX10_derives_78 (by decide) ?_
                              refine g_zast hx hb hE hG (k := 46) (by omega) (fun _ => rfl) kq (rfl) (rfl) (by omega) (by omega) dX10_derives_79 (fun H locs hG => ?_)
                              refine lv_aload_n hx hb dX10_derives_80 rfl (lv_at hl 0 rfl) ?_
                              refine g_get (C := RX10) (T := TX10) (NN := 35) (ci := 10) hx hb hts hinX10 hown hE hG (k := 28) (by omega) rfl rfl 32 (by decide) (hts (.fieldLink RX10 65 "CommutatorModel" "derived" "[I") (List.mem_of_getElem? (i := 5) rfl)) rfl (v := .ref (ad 47)) rfl dX10_derives_81 ?_
                              refine lv_iload_n hx hb dX10_derives_84 rfl (lv_at hl 2 rfl) ?_
                              refine lv_aload_n hx hb dX10_derives_85 rfl (lv_at hl 0 rfl) ?_
                              refine g_get (C := RX10) (T := TX10) (NN := 35) (ci := 10) hx hb hts hinX10 hown hE hG (k := 28) (by omega) rfl rfl 28 (by decide) (hts (.fieldLink RX10 52 "CommutatorModel" "operation" "[I") (List.mem_of_getElem? (i := 2) rfl)) rfl (v := .ref (ad 43)) rfl dX10_derives_86 ?_
                              refine lv_iload_n hx hb dX10_derives_89 rfl (lv_at hl 2 rfl) ?_
                              refine g_iald hx hb hE hG (k := 43) (by omega) rfl kq (rfl) (by omega) (by omega) dX10_derives_90 ?_
                              refine g_top (y := Aq 43 kq) (by first | rfl | (simp [gu_at]; done) | (rw [gu_at]; simp; omega)) ?_
                              refine g_top (y := zI (G 43 kq)) ((hR 43 _ (by omega) (by omega) (by omega)).trans (congrArg zI (hkk 43 _ (by omega)))) ?_
                              refine lv_aload_n hx hb dX10_derives_91 rfl (lv_at hl 0 rfl) ?_
                              refine lv_aload_n hx hb dX10_derives_92 rfl (lv_at hl 0 rfl) ?_
                              refine g_get (C := RX10) (T := TX10) (NN := 35) (ci := 10) hx hb hts hinX10 hown hE hG (k := 28) (by omega) rfl rfl 29 (by decide) (hts (.fieldLink RX10 55 "CommutatorModel" "first" "[I") (List.mem_of_getElem? (i := 3) rfl)) rfl (v := .ref (ad 44)) rfl dX10_derives_93 ?_
                              refine lv_iload_n hx hb dX10_derives_96 rfl (lv_at hl 2 rfl) ?_
                              refine g_iald hx hb hE hG (k := 44) (by omega) rfl kq (rfl) (by omega) (by omega) dX10_derives_97 ?_
                              refine g_top (y := Aq 44 kq) (by first | rfl | (simp [gu_at]; done) | (rw [gu_at]; simp; omega)) ?_
                              refine g_top (y := zI (G 44 kq)) ((hR 44 _ (by omega) (by omega) (by omega)).trans (congrArg zI (hkk 44 _ (by omega)))) ?_
                              refine g_callV (As := [.int (zI (G 44 kq))]) (rest := [.int (zI (G 43 kq)), .int (nI kq), .ref (ad 47)]) (r := (RX10, TX10, 35)) ⟨hx, hb, hml, hown, hts⟩ hE hG (cX10_valueOfC l D cy base ad n (gu Aq 46 kq (nI 1)) J (gu (mDerK (mDerR (mClr G 8) rq) kq) 46 kq 1) (G 44 kq) (hR.up 46 kq 1) (by first | assumption | omega)) (cwV 1 hts gX10_derives_X10_valueOf rfl rfl rfl (by decide +kernel) ⟨Nat.le_of_ble_eq_true rfl, Nat.le_of_ble_eq_true rfl⟩) (by omega) rfl rfl rfl hl.1 rfl (Nat.le_of_ble_eq_true rfl) dX10_derives_98 ⟨Nat.zero_le _, Nat.zero_le _⟩ (fun v_ A98 J98 H locs hp hG => ?_)
                              obtain ⟨rfl, rfl, rfl⟩ := hp
                              refine W.eq (g2 := F0 mM 101 ls [.int (zI (mVo (gu (mDerK (mDerR (mClr G 8) rq) kq) 46 kq 1) (G 44 kq))), .int (zI (G 43 kq)), .int (nI kq), .ref (ad 47)]) rfl ?_
                              refine g_top (y := zI (mVo (mDerK (mDerR (mClr G 8) rq) kq) (G 44 kq))) (rfl) ?_
                              refine lv_i2l (v := zL (mVo (mDerK (mDerR (mClr G 8) rq) kq) (G 44 kq))) hx hb dX10_derives_101 (zL_i2l (by omega) (by omega)) ?_
                              refine lv_aload_n hx hb dX10_derives_102 rfl (lv_at hl 0 rfl) ?_
                              refine lv_aload_n hx hb dX10_derives_103 rfl (lv_at hl 0 rfl) ?_
                              refine g_get (C := RX10) (T := TX10) (NN := 35) (ci := 10) hx hb hts hinX10 hown hE hG (k := 28) (by omega) rfl rfl 30 (by decide) (hts (.fieldLink RX10 58 "CommutatorModel" "second" "[I") (List.mem_of_getElem? (i := 4) rfl)) rfl (v := .ref (ad 45)) rfl dX10_derives_104 ?_
                              refine lv_iload_n hx hb dX10_derives_107 rfl (lv_at hl 2 rfl) ?_
                              refine g_iald hx hb hE hG (k := 45) (by omega) rfl kq (rfl) (by omega) (by omega) dX10_derives_108 ?_
                              refine g_top (y := Aq 45 kq) (by first | rfl | (simp [gu_at]; done) | (rw [gu_at]; simp; omega)) ?_
                              refine g_top (y := zI (G 45 kq)) ((hR 45 _ (by omega) (by omega) (by omega)).trans (congrArg zI (hkk 45 _ (by omega)))) ?_
                              refine g_callV (As := [.int (zI (G 45 kq))]) (rest := [.long (zL (mVo (mDerK (mDerR (mClr G 8) rq) kq) (G 44 kq))), .int (zI (G 43 kq)), .int (nI kq), .ref (ad 47)]) (r := (RX10, TX10, 35)) ⟨hx, hb, hml, hown, hts⟩ hE hG (cX10_valueOfC l D cy base ad n (gu Aq 46 kq (nI 1)) J (gu (mDerK (mDerR (mClr G 8) rq) kq) 46 kq 1) (G 45 kq) (hR.up 46 kq 1) (by first | assumption | omega)) (cwV 1 hts gX10_derives_X10_valueOf rfl rfl rfl (by decide +kernel) ⟨Nat.le_of_ble_eq_true rfl, Nat.le_of_ble_eq_true rfl⟩) (by omega) rfl rfl rfl hl.1 rfl (Nat.le_of_ble_eq_true rfl) dX10_derives_109 ⟨Nat.zero_le _, Nat.zero_le _⟩ (fun v_ A109 J109 H locs hp hG => ?_)
                              obtain ⟨rfl, rfl, rfl⟩ := hp
                              refine W.eq (g2 := F0 mM 112 ls [.int (zI (mVo (gu (mDerK (mDerR (mClr G 8) rq) kq) 46 kq 1) (G 45 kq))), .long (zL (mVo (mDerK (mDerR (mClr G 8) rq) kq) (G 44 kq))), .int (zI (G 43 kq)), .int (nI kq), .ref (ad 47)]) rfl ?_
                              refine g_top (y := zI (mVo (mDerK (mDerR (mClr G 8) rq) kq) (G 45 kq))) (rfl) ?_
                              refine lv_i2l (v := zL (mVo (mDerK (mDerR (mClr G 8) rq) kq) (G 45 kq))) hx hb dX10_derives_112 (zL_i2l (by omega) (by omega)) ?_
                              refine g_callS (As := [.int (zI (G 43 kq)), .long (zL (mVo (mDerK (mDerR (mClr G 8) rq) kq) (G 44 kq))), .long (zL (mVo (mDerK (mDerR (mClr G 8) rq) kq) (G 45 kq)))]) (rest := [.int (nI kq), .ref (ad 47)]) ⟨hx, hb, hml, hown, hts⟩ hE hG (cX10_madeC l D cy base ad n (gu Aq 46 kq (nI 1)) J (G 43 kq) (mVo (mDerK (mDerR (mClr G 8) rq) kq) (G 44 kq)) (mVo (mDerK (mDerR (mClr G 8) rq) kq) (G 45 kq)) (by first | assumption | omega) (by first | assumption | omega) (by first | assumption | omega)) (va_cwS 3 hts gX10_derives_X10_made rfl rfl rfl (by decide +kernel) ⟨Nat.le_of_ble_eq_true rfl, Nat.le_of_ble_eq_true rfl⟩) rfl hl.1 rfl (Nat.le_of_ble_eq_true rfl) dX10_derives_113 ⟨Nat.zero_le _, Nat.zero_le _⟩ (fun v_ A113 J113 H locs hp hG => ?_)
                              obtain ⟨rfl, rfl, rfl⟩ := hp
                              refine W.eq (g2 := F0 mM 116 ls [.int (zI (mMade (G 43 kq) (mVo (mDerK (mDerR (mClr G 8) rq) kq) (G 44 kq)) (mVo (mDerK (mDerR (mClr G 8) rq) kq) (G 45 kq)))), .int (nI kq), .ref (ad 47)]) rfl ?_
                              refine g_iast hx hb hE hG (k := 47) (by omega) (fun _ => rfl) kq (rfl) (by omega) (by omega) dX10_derives_116 (fun H locs hG => ?_)
                              refine lv_aload_n hx hb dX10_derives_117 rfl (lv_at hl 0 rfl) ?_
                              refine g_get (C := RX10) (T := TX10) (NN := 35) (ci := 10) hx hb hts hinX10 hown hE hG (k := 28) (by omega) rfl rfl 33 (by decide) (hts (.fieldLink RX10 68 "CommutatorModel" "derivedAt" "[I") (List.mem_of_getElem? (i := 6) rfl)) rfl (v := .ref (ad 48)) rfl dX10_derives_118 ?_
                              refine lv_iload_n hx hb dX10_derives_121 rfl (lv_at hl 2 rfl) ?_
                              refine lv_aload_n hx hb dX10_derives_122 rfl (lv_at hl 0 rfl) ?_
                              refine lv_aload_n hx hb dX10_derives_123 rfl (lv_at hl 0 rfl) ?_
                              refine g_get (C := RX10) (T := TX10) (NN := 35) (ci := 10) hx hb hts hinX10 hown hE hG (k := 28) (by omega) rfl rfl 29 (by decide) (hts (.fieldLink RX10 55 "CommutatorModel" "first" "[I") (List.mem_of_getElem? (i := 3) rfl)) rfl (v := .ref (ad 44)) rfl dX10_derives_124 ?_
                              refine lv_iload_n hx hb dX10_derives_127 rfl (lv_at hl 2 rfl) ?_
                              refine g_iald hx hb hE hG (k := 44) (by omega) rfl kq (rfl) (by omega) (by omega) dX10_derives_128 ?_
                              refine g_top (y := Aq 44 kq) (by first | rfl | (simp [gu_at]; done) | (rw [gu_at]; simp; omega)) ?_
                              refine g_top (y := zI (G 44 kq)) ((hR 44 _ (by omega) (by omega) (by omega)).trans (congrArg zI (hkk 44 _ (by omega)))) ?_
                              refine g_callV (As := [.int (zI (G 44 kq))]) (rest := [.int (nI kq), .ref (ad 48)]) (r := (RX10, TX10, 35)) ⟨hx, hb, hml, hown, hts⟩ hE hG (cX10_timeOfC l D cy base ad n (gu (gu Aq 46 kq (nI 1)) 47 kq (zI (mMade (G 43 kq) (mVo (mDerK (mDerR (mClr G 8) rq) kq) (G 44 kq)) (mVo (mDerK (mDerR (mClr G 8) rq) kq) (G 45 kq))))) J (gu (gu (mDerK (mDerR (mClr G 8) rq) kq) 46 kq 1) 47 kq (mMade (G 43 kq) (mVo (mDerK (mDerR (mClr G 8) rq) kq) (G 44 kq)) (mVo (mDerK (mDerR (mClr G 8) rq) kq) (G 45 kq)))) (G 44 kq) ((hR.up 46 kq 1).up 47 kq (mMade (G 43 kq) (mVo (mDerK (mDerR (mClr G 8) rq) kq) (G 44 kq)) (mVo (mDerK (mDerR (mClr G 8) rq) kq) (G 45 kq)))) (by first | assumption | omega)) (cwV 1 hts gX10_derives_X10_timeOf rfl rfl rfl (by decide +kernel) ⟨Nat.le_of_ble_eq_true rfl, Nat.le_of_ble_eq_true rfl⟩) (by omega) rfl rfl rfl hl.1 rfl (Nat.le_of_ble_eq_true rfl) dX10_derives_129 ⟨Nat.zero_le _, Nat.zero_le _⟩ (fun v_ A129 J129 H locs hp hG => ?_)
                              obtain ⟨rfl, rfl, rfl⟩ := hp
                              refine W.eq (g2 := F0 mM 132 ls [.int (zI (mTo (gu (gu (mDerK (mDerR (mClr G 8) rq) kq) 46 kq 1) 47 kq (mMade (G 43 kq) (mVo (mDerK (mDerR (mClr G 8) rq) kq) (G 44 kq)) (mVo (mDerK (mDerR (mClr G 8) rq) kq) (G 45 kq)))) (G 44 kq))), .int (nI kq), .ref (ad 48)]) rfl ?_
                              refine g_top (y := zI (mTo (mDerK (mDerR (mClr G 8) rq) kq) (G 44 kq))) (rfl) ?_
                              refine lv_aload_n hx hb dX10_derives_132 rfl (lv_at hl 0 rfl) ?_
                              refine lv_aload_n hx hb dX10_derives_133 rfl (lv_at hl 0 rfl) ?_
                              refine g_get (C := RX10) (T := TX10) (NN := 35) (ci := 10) hx hb hts hinX10 hown hE hG (k := 28) (by omega) rfl rfl 30 (by decide) (hts (.fieldLink RX10 58 "CommutatorModel" "second" "[I") (List.mem_of_getElem? (i := 4) rfl)) rfl (v := .ref (ad 45)) rfl dX10_derives_134 ?_
                              refine lv_iload_n hx hb dX10_derives_137 rfl (lv_at hl 2 rfl) ?_
                              refine g_iald hx hb hE hG (k := 45) (by omega) rfl kq (rfl) (by omega) (by omega) dX10_derives_138 ?_
                              refine g_top (y := Aq 45 kq) (by first | rfl | (simp [gu_at]; done) | (rw [gu_at]; simp; omega)) ?_
                              refine g_top (y := zI (G 45 kq)) ((hR 45 _ (by omega) (by omega) (by omega)).trans (congrArg zI (hkk 45 _ (by omega)))) ?_
                              refine g_callV (As := [.int (zI (G 45 kq))]) (rest := [.int (zI (mTo (mDerK (mDerR (mClr G 8) rq) kq) (G 44 kq))), .int (nI kq), .ref (ad 48)]) (r := (RX10, TX10, 35)) ⟨hx, hb, hml, hown, hts⟩ hE hG (cX10_timeOfC l D cy base ad n (gu (gu Aq 46 kq (nI 1)) 47 kq (zI (mMade (G 43 kq) (mVo (mDerK (mDerR (mClr G 8) rq) kq) (G 44 kq)) (mVo (mDerK (mDerR (mClr G 8) rq) kq) (G 45 kq))))) J (gu (gu (mDerK (mDerR (mClr G 8) rq) kq) 46 kq 1) 47 kq (mMade (G 43 kq) (mVo (mDerK (mDerR (mClr G 8) rq) kq) (G 44 kq)) (mVo (mDerK (mDerR (mClr G 8) rq) kq) (G 45 kq)))) (G 45 kq) ((hR.up 46 kq 1).up 47 kq (mMade (G 43 kq) (mVo (mDerK (mDerR (mClr G 8) rq) kq) (G 44 kq)) (mVo (mDerK (mDerR (mClr G 8) rq) kq) (G 45 kq)))) (by first | assumption | omega)) (cwV 1 hts gX10_derives_X10_timeOf rfl rfl rfl (by decide +kernel) ⟨Nat.le_of_ble_eq_true rfl, Nat.le_of_ble_eq_true rfl⟩) (by omega) rfl rfl rfl hl.1 rfl (Nat.le_of_ble_eq_true rfl) dX10_derives_139 ⟨Nat.zero_le _, Nat.zero_le _⟩ (fun v_ A139 J139 H locs hp hG => ?_)
                              obtain ⟨rfl, rfl, rfl⟩ := hp
                              refine W.eq (g2 := F0 mM 142 ls [.int (zI (mTo (gu (gu (mDerK (mDerR (mClr G 8) rq) kq) 46 kq 1) 47 kq (mMade (G 43 kq) (mVo (mDerK (mDerR (mClr G 8) rq) kq) (G 44 kq)) (mVo (mDerK (mDerR (mClr G 8) rq) kq) (G 45 kq)))) (G 45 kq))), .int (zI (mTo (mDerK (mDerR (mClr G 8) rq) kq) (G 44 kq))), .int (nI kq), .ref (ad 48)]) rfl ?_
                              refine g_top (y := zI (mTo (mDerK (mDerR (mClr G 8) rq) kq) (G 45 kq))) (rfl) ?_
                              refine lv_icmp_le (tgt := 158) hx hb dX10_derives_142 (by decide) (fun c142 => ?_) (fun c142 => ?_)
                              · skip
                                have c142 : (mTo (mDerK (mDerR (mClr G 8) rq) kq) (G 44 kq)) ≤ (mTo (mDerK (mDerR (mClr G 8) rq) kq) (G 45 kq)) := (cmp_le (zI_toInt (by omega) (by omega)) (zI_toInt (by omega) (by omega))).mp c142
                                refine lv_aload_n hx hb dX10_derives_158 rfl (lv_at hl 0 rfl) ?_
                                refine lv_aload_n hx hb dX10_derives_159 rfl (lv_at hl 0 rfl) ?_
                                refine g_get (C := RX10) (T := TX10) (NN := 35) (ci := 10) hx hb hts hinX10 hown hE hG (k := 28) (by omega) rfl rfl 30 (by decide) (hts (.fieldLink RX10 58 "CommutatorModel" "second" "[I") (List.mem_of_getElem? (i := 4) rfl)) rfl (v := .ref (ad 45)) rfl dX10_derives_160 ?_
                                refine lv_iload_n hx hb dX10_derives_163 rfl (lv_at hl 2 rfl) ?_
                                refine g_iald hx hb hE hG (k := 45) (by omega) rfl kq (rfl) (by omega) (by omega) dX10_derives_164 ?_
                                refine g_top (y := Aq 45 kq) (by first | rfl | (simp [gu_at]; done) | (rw [gu_at]; simp; omega)) ?_
                                refine g_top (y := zI (G 45 kq)) ((hR 45 _ (by omega) (by omega) (by omega)).trans (congrArg zI (hkk 45 _ (by omega)))) ?_
                                refine g_callV (As := [.int (zI (G 45 kq))]) (rest := [.int (nI kq), .ref (ad 48)]) (r := (RX10, TX10, 35)) ⟨hx, hb, hml, hown, hts⟩ hE hG (cX10_timeOfC l D cy base ad n (gu (gu Aq 46 kq (nI 1)) 47 kq (zI (mMade (G 43 kq) (mVo (mDerK (mDerR (mClr G 8) rq) kq) (G 44 kq)) (mVo (mDerK (mDerR (mClr G 8) rq) kq) (G 45 kq))))) J (gu (gu (mDerK (mDerR (mClr G 8) rq) kq) 46 kq 1) 47 kq (mMade (G 43 kq) (mVo (mDerK (mDerR (mClr G 8) rq) kq) (G 44 kq)) (mVo (mDerK (mDerR (mClr G 8) rq) kq) (G 45 kq)))) (G 45 kq) ((hR.up 46 kq 1).up 47 kq (mMade (G 43 kq) (mVo (mDerK (mDerR (mClr G 8) rq) kq) (G 44 kq)) (mVo (mDerK (mDerR (mClr G 8) rq) kq) (G 45 kq)))) (by first | assumption | omega)) (cwV 1 hts gX10_derives_X10_timeOf rfl rfl rfl (by decide +kernel) ⟨Nat.le_of_ble_eq_true rfl, Nat.le_of_ble_eq_true rfl⟩) (by omega) rfl rfl rfl hl.1 rfl (Nat.le_of_ble_eq_true rfl) dX10_derives_165 ⟨Nat.zero_le _, Nat.zero_le _⟩ (fun v_ A165 J165 H locs hp hG => ?_)
                                obtain ⟨rfl, rfl, rfl⟩ := hp
                                refine W.eq (g2 := F0 mM 168 ls [.int (zI (mTo (gu (gu (mDerK (mDerR (mClr G 8) rq) kq) 46 kq 1) 47 kq (mMade (G 43 kq) (mVo (mDerK (mDerR (mClr G 8) rq) kq) (G 44 kq)) (mVo (mDerK (mDerR (mClr G 8) rq) kq) (G 45 kq)))) (G 45 kq))), .int (nI kq), .ref (ad 48)]) rfl ?_
                                refine g_top (y := zI (mTo (mDerK (mDerR (mClr G 8) rq) kq) (G 45 kq))) (rfl) ?_
                                refine g_iast hx hb hE hG (k := 48) (by omega) (fun _ => rfl) kq (rfl) (by omega) (by omega) dX10_derives_168 (fun H locs hG => ?_)
                                exact LLq169 (gu (gu (gu Aq 46 kq (nI 1)) 47 kq (zI (mMade (G 43 kq) (mVo (mDerK (mDerR (mClr G 8) rq) kq) (G 44 kq)) (mVo (mDerK (mDerR (mClr G 8) rq) kq) (G 45 kq))))) 48 kq (zI (mTo (mDerK (mDerR (mClr G 8) rq) kq) (G 45 kq)))) (by rw [show mDerK (mDerR (mClr G 8) rq) (kq + 1) = mDer1 (mDerK (mDerR (mClr G 8) rq) kq) kq from rfl]; first | (rw [mDer1_f (hkk 43 kq (by omega)) (hkk 44 kq (by omega)) (hkk 45 kq (by omega)) (by first | exact Or.inl c44 | exact Or.inr (Or.inl hC_54) | exact Or.inr (Or.inr hC_67))]; exact hR) | (rw [mDer1_t (x := _) (hkk 43 kq (by omega)) (hkk 44 kq (by omega)) (hkk 45 kq (by omega)) c44 hC_54 hC_67 (by first | exact (if_pos (by omega)).symm | exact (if_neg (by omega)).symm)]; exact ((hR.up 46 kq 1).up 47 kq _).up 48 kq _)) (by first | exact hO | exact (((hO.up _ _ (by decide) (by decide)).up _ _ (by decide) (by decide)).up _ _ (by decide) (by decide))) (by first | exact hth | (rw [gu_at, if_neg (by omega), gu_at, if_neg (by omega), gu_at, if_neg (by omega)]; exact hth)) _ _ _ hG (lv_sub hl [0, 1, 2] rfl)
                              · skip
                                have c142 : ¬ ((mTo (mDerK (mDerR (mClr G 8) rq) kq) (G 44 kq)) ≤ (mTo (mDerK (mDerR (mClr G 8) rq) kq) (G 45 kq))) := fun z9 => c142 ((cmp_le (zI_toInt (by omega) (by omega)) (zI_toInt (by omega) (by omega))).mpr z9)
                                refine lv_aload_n hx hb dX10_derives_145 rfl (lv_at hl 0 rfl) ?_
                                refine lv_aload_n hx hb dX10_derives_146 rfl (lv_at hl 0 rfl) ?_
                                refine g_get (C := RX10) (T := TX10) (NN := 35) (ci := 10) hx hb hts hinX10 hown hE hG (k := 28) (by omega) rfl rfl 29 (by decide) (hts (.fieldLink RX10 55 "CommutatorModel" "first" "[I") (List.mem_of_getElem? (i := 3) rfl)) rfl (v := .ref (ad 44)) rfl dX10_derives_147 ?_
                                refine lv_iload_n hx hb dX10_derives_150 rfl (lv_at hl 2 rfl) ?_
                                refine g_iald hx hb hE hG (k := 44) (by omega) rfl kq (rfl) (by omega) (by omega) dX10_derives_151 ?_
                                refine g_top (y := Aq 44 kq) (by first | rfl | (simp [gu_at]; done) | (rw [gu_at]; simp; omega)) ?_
                                refine g_top (y := zI (G 44 kq)) ((hR 44 _ (by omega) (by omega) (by omega)).trans (congrArg zI (hkk 44 _ (by omega)))) ?_
                                refine g_callV (As := [.int (zI (G 44 kq))]) (rest := [.int (nI kq), .ref (ad 48)]) (r := (RX10, TX10, 35)) ⟨hx, hb, hml, hown, hts⟩ hE hG (cX10_timeOfC l D cy base ad n (gu (gu Aq 46 kq (nI 1)) 47 kq (zI (mMade (G 43 kq) (mVo (mDerK (mDerR (mClr G 8) rq) kq) (G 44 kq)) (mVo (mDerK (mDerR (mClr G 8) rq) kq) (G 45 kq))))) J (gu (gu (mDerK (mDerR (mClr G 8) rq) kq) 46 kq 1) 47 kq (mMade (G 43 kq) (mVo (mDerK (mDerR (mClr G 8) rq) kq) (G 44 kq)) (mVo (mDerK (mDerR (mClr G 8) rq) kq) (G 45 kq)))) (G 44 kq) ((hR.up 46 kq 1).up 47 kq (mMade (G 43 kq) (mVo (mDerK (mDerR (mClr G 8) rq) kq) (G 44 kq)) (mVo (mDerK (mDerR (mClr G 8) rq) kq) (G 45 kq)))) (by first | assumption | omega)) (cwV 1 hts gX10_derives_X10_timeOf rfl rfl rfl (by decide +kernel) ⟨Nat.le_of_ble_eq_true rfl, Nat.le_of_ble_eq_true rfl⟩) (by omega) rfl rfl rfl hl.1 rfl (Nat.le_of_ble_eq_true rfl) dX10_derives_152 ⟨Nat.zero_le _, Nat.zero_le _⟩ (fun v_ A152 J152 H locs hp hG => ?_)
                                obtain ⟨rfl, rfl, rfl⟩ := hp
                                refine W.eq (g2 := F0 mM 155 ls [.int (zI (mTo (gu (gu (mDerK (mDerR (mClr G 8) rq) kq) 46 kq 1) 47 kq (mMade (G 43 kq) (mVo (mDerK (mDerR (mClr G 8) rq) kq) (G 44 kq)) (mVo (mDerK (mDerR (mClr G 8) rq) kq) (G 45 kq)))) (G 44 kq))), .int (nI kq), .ref (ad 48)]) rfl ?_
                                refine g_top (y := zI (mTo (mDerK (mDerR (mClr G 8) rq) kq) (G 44 kq))) (rfl) ?_
                                refine lv_goto (tgt := 168) hx hb dX10_derives_155 (by decide) ?_
                                refine g_iast hx hb hE hG (k := 48) (by omega) (fun _ => rfl) kq (rfl) (by omega) (by omega) dX10_derives_168 (fun H locs hG => ?_)
                                exact LLq169 (gu (gu (gu Aq 46 kq (nI 1)) 47 kq (zI (mMade (G 43 kq) (mVo (mDerK (mDerR (mClr G 8) rq) kq) (G 44 kq)) (mVo (mDerK (mDerR (mClr G 8) rq) kq) (G 45 kq))))) 48 kq (zI (mTo (mDerK (mDerR (mClr G 8) rq) kq) (G 44 kq)))) (by rw [show mDerK (mDerR (mClr G 8) rq) (kq + 1) = mDer1 (mDerK (mDerR (mClr G 8) rq) kq) kq from rfl]; first | (rw [mDer1_f (hkk 43 kq (by omega)) (hkk 44 kq (by omega)) (hkk 45 kq (by omega)) (by first | exact Or.inl c44 | exact Or.inr (Or.inl hC_54) | exact Or.inr (Or.inr hC_67))]; exact hR) | (rw [mDer1_t (x := _) (hkk 43 kq (by omega)) (hkk 44 kq (by omega)) (hkk 45 kq (by omega)) c44 hC_54 hC_67 (by first | exact (if_pos (by omega)).symm | exact (if_neg (by omega)).symm)]; exact ((hR.up 46 kq 1).up 47 kq _).up 48 kq _)) (by first | exact hO | exact (((hO.up _ _ (by decide) (by decide)).up _ _ (by decide) (by decide)).up _ _ (by decide) (by decide))) (by first | exact hth | (rw [gu_at, if_neg (by omega), gu_at, if_neg (by omega), gu_at, if_neg (by omega)]; exact hth)) _ _ _ hG (lv_sub hl [0, 1, 2] rfl)
                          · refine W.eq (g2 := F0 mM 70 ls [.int (nI 0)]) rfl ?_
                            refine lv_if_eq (tgt := 169) hx hb dX10_derives_70 (by decide) (fun c70 => ?_) (fun c70 => ?_)
                            · skip
                              exact LLq169 Aq (by rw [show mDerK (mDerR (mClr G 8) rq) (kq + 1) = mDer1 (mDerK (mDerR (mClr G 8) rq) kq) kq from rfl]; first | (rw [mDer1_f (hkk 43 kq (by omega)) (hkk 44 kq (by omega)) (hkk 45 kq (by omega)) (by first | exact Or.inl c44 | exact Or.inr (Or.inl hC_54) | exact Or.inr (Or.inr hC_67))]; exact hR) | (rw [mDer1_t (x := _) (hkk 43 kq (by omega)) (hkk 44 kq (by omega)) (hkk 45 kq (by omega)) c44 hC_54 hC_67 (by first | exact (if_pos (by omega)).symm | exact (if_neg (by omega)).symm)]; exact ((hR.up 46 kq 1).up 47 kq _).up 48 kq _)) (by first | exact hO | exact (((hO.up _ _ (by decide) (by decide)).up _ _ (by decide) (by decide)).up _ _ (by decide) (by decide))) (by first | exact hth | (rw [gu_at, if_neg (by omega), gu_at, if_neg (by omega), gu_at, if_neg (by omega)]; exact hth)) _ _ _ hG (lv_sub hl [0, 1, 2] rfl)
                            · skip
                              exact absurd c70 (by decide)
                      · refine W.eq (g2 := F0 mM 57 ls [.int (nI 0)]) rfl ?_
                        refine lv_if_eq (tgt := 169) hx hb dX10_derives_57 (by decide) (fun c57 => ?_) (fun c57 => ?_)
                        · skip
                          exact LLq169 Aq (by rw [show mDerK (mDerR (mClr G 8) rq) (kq + 1) = mDer1 (mDerK (mDerR (mClr G 8) rq) kq) kq from rfl]; first | (rw [mDer1_f (hkk 43 kq (by omega)) (hkk 44 kq (by omega)) (hkk 45 kq (by omega)) (by first | exact Or.inl c44 | exact Or.inr (Or.inl hC_54) | exact Or.inr (Or.inr hC_67))]; exact hR) | (rw [mDer1_t (x := _) (hkk 43 kq (by omega)) (hkk 44 kq (by omega)) (hkk 45 kq (by omega)) c44 hC_54 hC_67 (by first | exact (if_pos (by omega)).symm | exact (if_neg (by omega)).symm)]; exact ((hR.up 46 kq 1).up 47 kq _).up 48 kq _)) (by first | exact hO | exact (((hO.up _ _ (by decide) (by decide)).up _ _ (by decide) (by decide)).up _ _ (by decide) (by decide))) (by first | exact hth | (rw [gu_at, if_neg (by omega), gu_at, if_neg (by omega), gu_at, if_neg (by omega)]; exact hth)) _ _ _ hG (lv_sub hl [0, 1, 2] rfl)
                        · skip
                          exact absurd c57 (by decide)
              exact LLq31 _ 0 Aq (by omega) hR hO hth (Nat.lt_succ_self _) _ _ _ hG (lv_sub hl [1, 2, 0] rfl)
        exact LLq23 _ 0 Aq (by omega) hR hO hth (Nat.lt_succ_self _) _ _ _ hG (lv_sub hl [1, 0] rfl)
      · skip
        have c5 : ¬ (8 ≤ cq) := fun z9 => c5 ((nI_leI (by omega) (by omega)).mpr z9)
        refine lv_aload_n hx hb dX10_derives_8 rfl (lv_at hl 0 rfl) ?_
        refine g_get (C := RX10) (T := TX10) (NN := 35) (ci := 10) hx hb hts hinX10 hown hE hG (k := 28) (by omega) rfl rfl 31 (by decide) (hts (.fieldLink RX10 61 "CommutatorModel" "isKnown" "[Z") (List.mem_of_getElem? (i := 1) rfl)) rfl (v := .ref (ad 46)) rfl dX10_derives_9 ?_
        refine lv_iload_n hx hb dX10_derives_12 rfl (lv_at hl 1 rfl) ?_
        refine lv_iconst (v := nI 0) hx hb dX10_derives_13 (by decide) ?_
        refine g_zast hx hb hE hG (k := 46) (by omega) (fun _ => rfl) cq (rfl) (rfl) (by omega) (by omega) dX10_derives_14 (fun H locs hG => ?_)
        refine lv_iinc (v := nI (cq + 1)) (lv' := [(1, .int (nI (cq + 1))), (0, .ref (ad 28))]) hx hb dX10_derives_15 hl (k := 1) rfl (by rw [show (Int32.ofInt 1 : Int32) = nI 1 from rfl, nI_add]) (by decide) rfl (fun ls hl => ?_)
        refine lv_goto (tgt := 2) hx hb dX10_derives_18 (by decide) ?_
        exact ihq2 (cq + 1) (gu Aq 46 cq (nI 0)) (by omega) (hR.row3 (x := 0) (fun j9 => mClr_s G cq j9)) (hO.up _ _ (by decide) (by decide)) (by rw [gu_at, if_neg (by omega)]; exact hth) (by omega) _ _ _ hG (lv_sub hl [1, 0] rfl)
  exact LLq2 _ 0 A (by omega) (hM.row (fun j9 => by rw [if_neg (by omega)])) MOnly.rf rfl (Nat.lt_succ_self _) _ _ _ hG (lv_sub hl [1, 0] rfl)

abbrev PX10_isDerived (ad : Nat → Nat) (A : Nat → Nat → Int32) (J : Nat → Nat → Int64) (G : Nat → Nat → Int) (x : Int32) : Option Value → (Nat → Nat → Int32) → (Nat → Nat → Int64) → Prop := fun v_ A1 J1 => (∃ (jq : Nat), v_ = some (.int (nI 1)) ∧ J = J1 ∧ (x = nI jq) ∧ (jq < 8) ∧ (mDers G 46 jq = 1) ∧ (MRep A1 (mDers G)) ∧ (MOnly A A1) ∧ (A1 28 34 = nI 0)) ∨ (v_ = some (.int (nI 0)) ∧ J = J1 ∧ (¬ (0 ≤ x.toInt ∧ x.toInt ≤ 7)) ∧ (MRep A1 (mDers G)) ∧ (MOnly A A1) ∧ (A1 28 34 = nI 1)) ∨ (∃ (jq : Nat), v_ = some (.int (nI 0)) ∧ J = J1 ∧ (x = nI jq) ∧ (jq < 8) ∧ (mDers G 46 jq = 0) ∧ (MRep A1 (mDers G)) ∧ (MOnly A A1) ∧ (A1 28 34 = nI 2))
set_option maxHeartbeats 4000000 in
set_option maxRecDepth 100000 in
theorem cX10_isDerivedC (l : Launch) (D : va_G) (cy : Nat → ClassId) (base : Nat) (ad : Nat → Nat) (n : Nat) (A : Nat → Nat → Int32) (J : Nat → Nat → Int64) (G : Nat → Nat → Int) (x : Int32) (hM : MRep A G) (hdv : mDvOk G) (hdr : mDrOk G) (hn : 0 ≤ G 28 0 ∧ G 28 0 ≤ 12) (hs : ∀ j, 0 ≤ G 41 j ∧ G 41 j < 1000000) : gMet l yX10_isDerived wsX10_isDerived ({ frames := 2, cells := 0, slots := 0, locals := 48 } : Room) D cy base ad n A J [.ref (ad 28), .int x] (PX10_isDerived ad A J G x) := by
  refine g_ofW (cc := cX10_isDerived) (maxL := 2) (ret := (some .boolean)) (by decide) rfl (Nat.le_of_ble_eq_true rfl) ?_
  intro pM eM sM mM aM bM methM cM H locs ls hx hb hr hts hown hlocks hml hE hG hl
  have hl : lv_has ls 2 [(0, .ref (ad 28)), (1, .int x)] := hl
  have hinX10 : ∀ w ∈ u_ws RX10 TX10 35, w ∈ wsX10_isDerived := by decide +kernel
  have hdd : mDrOk (mDers G) := mDerR_ok (mClr_ok hdr 8) 8
  refine lv_aload_n hx hb dX10_isDerived_0 rfl (lv_at hl 0 rfl) ?_
  refine g_callV (As := []) (rest := []) (r := (RX10, TX10, 35)) ⟨hx, hb, hml, hown, hts⟩ hE hG (cX10_derivesC l D cy base ad n A J G (by first | exact hM | exact hM.st | exact hM.pa | exact hM.th _ | exact (hM.th _).st | exact (hM.th _).pa | exact (hM.th _).th _ | exact ((hM.th _).th _).st) (by first | assumption | omega) (by first | assumption | omega) (by first | assumption | omega) (by first | assumption | omega)) (cwV 0 hts gX10_isDerived_X10_derives rfl rfl rfl (by decide +kernel) ⟨Nat.le_of_ble_eq_true rfl, Nat.le_of_ble_eq_true rfl⟩) (by omega) rfl rfl rfl hl.1 rfl (Nat.le_of_ble_eq_true rfl) dX10_isDerived_1 ⟨Nat.zero_le _, Nat.zero_le _⟩ (fun v_ A1 J1 H locs hp hG => ?_)
  obtain ⟨rfl, rfl, hR_1, hO_1, hth_1⟩ := hp
  refine W.eq (g2 := F0 mM 4 ls []) rfl ?_
  have hM := hR_1
  refine lv_aload_n hx hb dX10_isDerived_4 rfl (lv_at hl 0 rfl) ?_
  refine lv_iload_n hx hb dX10_isDerived_5 rfl (lv_at hl 1 rfl) ?_
  refine lv_iconst (v := nI 0) hx hb dX10_isDerived_6 (by decide) ?_
  refine lv_bipush (v := nI 7) hx hb dX10_isDerived_7 (by decide) ?_
  refine g_callS (As := [.int x, .int (nI 0), .int (nI 7)]) (rest := [.ref (ad 28)]) ⟨hx, hb, hml, hown, hts⟩ hE hG (cX10_isInC l D cy base ad n A1 J x 0 7 (by first | assumption | omega) (by first | assumption | omega) (by first | assumption | omega) (by first | assumption | omega)) (va_cwS 3 hts gX10_isDerived_X10_isIn rfl rfl rfl (by decide +kernel) ⟨Nat.le_of_ble_eq_true rfl, Nat.le_of_ble_eq_true rfl⟩) rfl hl.1 rfl (Nat.le_of_ble_eq_true rfl) dX10_isDerived_9 ⟨Nat.zero_le _, Nat.zero_le _⟩ (fun v_ A9 J9 H locs hp hG => ?_)
  rcases hp with ⟨rfl, rfl, rfl, hC_9⟩ | ⟨rfl, rfl, rfl, hC_9⟩
  · refine W.eq (g2 := F0 mM 12 ls [.int (nI 1), .ref (ad 28)]) rfl ?_
    obtain ⟨jq, hjq, rfl⟩ := z_nat (x := x) (by omega)
    have hjqt : (nI jq).toInt = (jq : Int) := nI_toInt hjq
    have h46 := (hdd jq).1
    refine lv_if_ne (tgt := 19) hx hb dX10_isDerived_12 (by decide) (fun c12 => ?_) (fun c12 => ?_)
    · skip
      refine lv_aload_n hx hb dX10_isDerived_19 rfl (lv_at hl 0 rfl) ?_
      refine g_get (C := RX10) (T := TX10) (NN := 35) (ci := 10) hx hb hts hinX10 hown hE hG (k := 28) (by omega) rfl rfl 31 (by decide) (hts (.fieldLink RX10 61 "CommutatorModel" "isKnown" "[Z") (List.mem_of_getElem? (i := 1) rfl)) rfl (v := .ref (ad 46)) rfl dX10_isDerived_20 ?_
      refine lv_iload_n hx hb dX10_isDerived_23 rfl (lv_at hl 1 rfl) ?_
      refine g_zald hx hb hE hG (k := 46) (by omega) rfl jq (rfl) (by omega) (by omega) dX10_isDerived_24 ?_
      refine g_top (y := zI (mDers G 46 jq)) (hR_1 46 jq (by omega) (by omega) (by omega)) ?_
      refine lv_if_eq (tgt := 32) hx hb dX10_isDerived_25 (by decide) (fun c25 => ?_) (fun c25 => ?_)
      · skip
        have c25 : (zI (mDers G 46 jq)) = nI 0 := c25
        have c25 : (mDers G 46 jq) = ((0 : Nat) : Int) := (cmp_eq (zI_toInt (by omega) (by omega)) (nI_toInt (by omega))).mp c25
        refine lv_iconst (v := nI 2) hx hb dX10_isDerived_32 (by decide) ?_
        refine g_callV (As := [.int (nI 2)]) (rest := []) (r := (RX10, TX10, 35)) ⟨hx, hb, hml, hown, hts⟩ hE hG (cX10_canC l D cy base ad n A1 J 2 (by first | assumption | omega)) (cwV 1 hts gX10_isDerived_X10_can rfl rfl rfl (by decide +kernel) ⟨Nat.le_of_ble_eq_true rfl, Nat.le_of_ble_eq_true rfl⟩) (by omega) rfl rfl rfl hl.1 rfl (Nat.le_of_ble_eq_true rfl) dX10_isDerived_33 ⟨Nat.zero_le _, Nat.zero_le _⟩ (fun v_ A33 J33 H locs hp hG => ?_)
        rcases hp with ⟨rfl, rfl, rfl, hC_33⟩ | ⟨rfl, rfl, rfl, hC_33⟩
        · exact absurd hC_33 (by decide)
        · refine W.eq (g2 := F0 mM 36 ls [.int (nI 0)]) rfl ?_
          exact g_zret hx hb hr hlocks hG rfl (by first | exact Or.inl ⟨jq, rfl, rfl, rfl, by omega, by omega, hR_1.th _, (fun q9 h9 => by rw [gu_ne _ _ _ (by omega)]; exact hO_1 q9 h9), rfl⟩ | exact Or.inr (Or.inl ⟨rfl, rfl, by omega, hR_1.th _, (fun q9 h9 => by rw [gu_ne _ _ _ (by omega)]; exact hO_1 q9 h9), rfl⟩) | exact Or.inr (Or.inr ⟨jq, rfl, rfl, rfl, by omega, by omega, hR_1.th _, (fun q9 h9 => by rw [gu_ne _ _ _ (by omega)]; exact hO_1 q9 h9), rfl⟩)) dX10_isDerived_36
      · skip
        have c25 : ¬ ((zI (mDers G 46 jq)) = nI 0) := c25
        have c25 : ¬ ((mDers G 46 jq) = ((0 : Nat) : Int)) := fun z9 => c25 ((cmp_eq (zI_toInt (by omega) (by omega)) (nI_toInt (by omega))).mpr z9)
        refine lv_iconst (v := nI 0) hx hb dX10_isDerived_28 (by decide) ?_
        refine lv_goto (tgt := 33) hx hb dX10_isDerived_29 (by decide) ?_
        refine g_callV (As := [.int (nI 0)]) (rest := []) (r := (RX10, TX10, 35)) ⟨hx, hb, hml, hown, hts⟩ hE hG (cX10_canC l D cy base ad n A1 J 0 (by first | assumption | omega)) (cwV 1 hts gX10_isDerived_X10_can rfl rfl rfl (by decide +kernel) ⟨Nat.le_of_ble_eq_true rfl, Nat.le_of_ble_eq_true rfl⟩) (by omega) rfl rfl rfl hl.1 rfl (Nat.le_of_ble_eq_true rfl) dX10_isDerived_33 ⟨Nat.zero_le _, Nat.zero_le _⟩ (fun v_ A33 J33 H locs hp hG => ?_)
        rcases hp with ⟨rfl, rfl, rfl, hC_33⟩ | ⟨rfl, rfl, rfl, hC_33⟩
        · refine W.eq (g2 := F0 mM 36 ls [.int (nI 1)]) rfl ?_
          exact g_zret hx hb hr hlocks hG rfl (by first | exact Or.inl ⟨jq, rfl, rfl, rfl, by omega, by omega, hR_1.th _, (fun q9 h9 => by rw [gu_ne _ _ _ (by omega)]; exact hO_1 q9 h9), rfl⟩ | exact Or.inr (Or.inl ⟨rfl, rfl, by omega, hR_1.th _, (fun q9 h9 => by rw [gu_ne _ _ _ (by omega)]; exact hO_1 q9 h9), rfl⟩) | exact Or.inr (Or.inr ⟨jq, rfl, rfl, rfl, by omega, by omega, hR_1.th _, (fun q9 h9 => by rw [gu_ne _ _ _ (by omega)]; exact hO_1 q9 h9), rfl⟩)) dX10_isDerived_36
        · exact absurd hC_33 (by decide)
    · skip
      exact absurd c12 (by decide)
  · refine W.eq (g2 := F0 mM 12 ls [.int (nI 0), .ref (ad 28)]) rfl ?_
    refine lv_if_ne (tgt := 19) hx hb dX10_isDerived_12 (by decide) (fun c12 => ?_) (fun c12 => ?_)
    · skip
      exact absurd c12 (by decide)
    · skip
      refine lv_iconst (v := nI 1) hx hb dX10_isDerived_15 (by decide) ?_
      refine lv_goto (tgt := 33) hx hb dX10_isDerived_16 (by decide) ?_
      refine g_callV (As := [.int (nI 1)]) (rest := []) (r := (RX10, TX10, 35)) ⟨hx, hb, hml, hown, hts⟩ hE hG (cX10_canC l D cy base ad n A1 J 1 (by first | assumption | omega)) (cwV 1 hts gX10_isDerived_X10_can rfl rfl rfl (by decide +kernel) ⟨Nat.le_of_ble_eq_true rfl, Nat.le_of_ble_eq_true rfl⟩) (by omega) rfl rfl rfl hl.1 rfl (Nat.le_of_ble_eq_true rfl) dX10_isDerived_33 ⟨Nat.zero_le _, Nat.zero_le _⟩ (fun v_ A33 J33 H locs hp hG => ?_)
      rcases hp with ⟨rfl, rfl, rfl, hC_33⟩ | ⟨rfl, rfl, rfl, hC_33⟩
      · exact absurd hC_33 (by decide)
      · refine W.eq (g2 := F0 mM 36 ls [.int (nI 0)]) rfl ?_
        exact g_zret hx hb hr hlocks hG rfl (by first | exact Or.inl ⟨jq, rfl, rfl, rfl, by omega, by omega, hR_1.th _, (fun q9 h9 => by rw [gu_ne _ _ _ (by omega)]; exact hO_1 q9 h9), rfl⟩ | exact Or.inr (Or.inl ⟨rfl, rfl, by omega, hR_1.th _, (fun q9 h9 => by rw [gu_ne _ _ _ (by omega)]; exact hO_1 q9 h9), rfl⟩) | exact Or.inr (Or.inr ⟨jq, rfl, rfl, rfl, by omega, by omega, hR_1.th _, (fun q9 h9 => by rw [gu_ne _ _ _ (by omega)]; exact hO_1 q9 h9), rfl⟩)) dX10_isDerived_36

abbrev PX10_derivedValue (ad : Nat → Nat) (A : Nat → Nat → Int32) (J : Nat → Nat → Int64) (G : Nat → Nat → Int) (x : Int32) : Option Value → (Nat → Nat → Int32) → (Nat → Nat → Int64) → Prop := fun v_ A1 J1 => (∃ (jq : Nat), v_ = some (.int (zI (mDers G 47 jq))) ∧ J = J1 ∧ (x = nI jq) ∧ (jq < 8) ∧ (mDers G 46 jq = 1) ∧ (MRep A1 (mDers G)) ∧ (MOnly A A1) ∧ (A1 28 34 = nI 0)) ∨ (v_ = some (.int (nI 0)) ∧ J = J1 ∧ (¬ (0 ≤ x.toInt ∧ x.toInt ≤ 7)) ∧ (MRep A1 (mDers G)) ∧ (MOnly A A1) ∧ (A1 28 34 = nI 1)) ∨ (∃ (jq : Nat), v_ = some (.int (nI 0)) ∧ J = J1 ∧ (x = nI jq) ∧ (jq < 8) ∧ (mDers G 46 jq = 0) ∧ (MRep A1 (mDers G)) ∧ (MOnly A A1) ∧ (A1 28 34 = nI 2))
set_option maxHeartbeats 4000000 in
set_option maxRecDepth 100000 in
theorem cX10_derivedValueC (l : Launch) (D : va_G) (cy : Nat → ClassId) (base : Nat) (ad : Nat → Nat) (n : Nat) (A : Nat → Nat → Int32) (J : Nat → Nat → Int64) (G : Nat → Nat → Int) (x : Int32) (hM : MRep A G) (hdv : mDvOk G) (hdr : mDrOk G) (hn : 0 ≤ G 28 0 ∧ G 28 0 ≤ 12) (hs : ∀ j, 0 ≤ G 41 j ∧ G 41 j < 1000000) : gMet l yX10_derivedValue wsX10_derivedValue ({ frames := 3, cells := 0, slots := 0, locals := 69 } : Room) D cy base ad n A J [.ref (ad 28), .int x] (PX10_derivedValue ad A J G x) := by
  refine g_ofW (cc := cX10_derivedValue) (maxL := 2) (ret := (some .int)) (by decide) rfl (Nat.le_of_ble_eq_true rfl) ?_
  intro pM eM sM mM aM bM methM cM H locs ls hx hb hr hts hown hlocks hml hE hG hl
  have hl : lv_has ls 2 [(0, .ref (ad 28)), (1, .int x)] := hl
  have hinX10 : ∀ w ∈ u_ws RX10 TX10 35, w ∈ wsX10_derivedValue := by decide +kernel
  refine lv_aload_n hx hb dX10_derivedValue_0 rfl (lv_at hl 0 rfl) ?_
  refine lv_iload_n hx hb dX10_derivedValue_1 rfl (lv_at hl 1 rfl) ?_
  refine g_callV (As := [.int x]) (rest := []) (r := (RX10, TX10, 35)) ⟨hx, hb, hml, hown, hts⟩ hE hG (cX10_isDerivedC l D cy base ad n A J G x (by first | exact hM | exact hM.st | exact hM.pa | exact hM.th _ | exact (hM.th _).st | exact (hM.th _).pa | exact (hM.th _).th _ | exact ((hM.th _).th _).st) (by first | assumption | omega) (by first | assumption | omega) (by first | assumption | omega) (by first | assumption | omega)) (cwV 1 hts gX10_derivedValue_X10_isDerived rfl rfl rfl (by decide +kernel) ⟨Nat.le_of_ble_eq_true rfl, Nat.le_of_ble_eq_true rfl⟩) (by omega) rfl rfl rfl hl.1 rfl (Nat.le_of_ble_eq_true rfl) dX10_derivedValue_2 ⟨Nat.zero_le _, Nat.zero_le _⟩ (fun v_ A2 J2 H locs hp hG => ?_)
  rcases hp with ⟨jq_2, rfl, rfl, hx_2, hC_2, hD_2, hR_2, hO_2, hth_2⟩ | ⟨rfl, rfl, hC_2, hR_2, hO_2, hth_2⟩ | ⟨jq_2, rfl, rfl, hx_2, hC_2, hD_2, hR_2, hO_2, hth_2⟩
  · refine W.eq (g2 := F0 mM 5 ls [.int (nI 1)]) rfl ?_
    subst hx_2
    refine lv_if_eq (tgt := 17) hx hb dX10_derivedValue_5 (by decide) (fun c5 => ?_) (fun c5 => ?_)
    · skip
      exact absurd c5 (by decide)
    · skip
      refine lv_aload_n hx hb dX10_derivedValue_8 rfl (lv_at hl 0 rfl) ?_
      refine g_get (C := RX10) (T := TX10) (NN := 35) (ci := 10) hx hb hts hinX10 hown hE hG (k := 28) (by omega) rfl rfl 32 (by decide) (hts (.fieldLink RX10 65 "CommutatorModel" "derived" "[I") (List.mem_of_getElem? (i := 1) rfl)) rfl (v := .ref (ad 47)) rfl dX10_derivedValue_9 ?_
      refine lv_iload_n hx hb dX10_derivedValue_12 rfl (lv_at hl 1 rfl) ?_
      refine g_iald hx hb hE hG (k := 47) (by omega) rfl jq_2 (rfl) (by omega) (by omega) dX10_derivedValue_13 ?_
      refine g_top (y := zI (mDers G 47 jq_2)) (hR_2 47 jq_2 (by omega) (by omega) (by omega)) ?_
      refine lv_goto (tgt := 18) hx hb dX10_derivedValue_14 (by decide) ?_
      exact g_iret hx hb hr hlocks hG (by first | exact Or.inl ⟨jq_2, rfl, rfl, rfl, hC_2, hD_2, hR_2, hO_2, hth_2⟩ | exact Or.inr (Or.inl ⟨rfl, rfl, hC_2, hR_2, hO_2, hth_2⟩) | exact Or.inr (Or.inr ⟨jq_2, rfl, rfl, hx_2, hC_2, hD_2, hR_2, hO_2, hth_2⟩)) dX10_derivedValue_18
  · refine W.eq (g2 := F0 mM 5 ls [.int (nI 0)]) rfl ?_
    refine lv_if_eq (tgt := 17) hx hb dX10_derivedValue_5 (by decide) (fun c5 => ?_) (fun c5 => ?_)
    · skip
      refine lv_iconst (v := nI 0) hx hb dX10_derivedValue_17 (by decide) ?_
      exact g_iret hx hb hr hlocks hG (by first | exact Or.inl ⟨jq_2, rfl, rfl, rfl, hC_2, hD_2, hR_2, hO_2, hth_2⟩ | exact Or.inr (Or.inl ⟨rfl, rfl, hC_2, hR_2, hO_2, hth_2⟩) | exact Or.inr (Or.inr ⟨jq_2, rfl, rfl, hx_2, hC_2, hD_2, hR_2, hO_2, hth_2⟩)) dX10_derivedValue_18
    · skip
      exact absurd c5 (by decide)
  · refine W.eq (g2 := F0 mM 5 ls [.int (nI 0)]) rfl ?_
    refine lv_if_eq (tgt := 17) hx hb dX10_derivedValue_5 (by decide) (fun c5 => ?_) (fun c5 => ?_)
    · skip
      refine lv_iconst (v := nI 0) hx hb dX10_derivedValue_17 (by decide) ?_
      exact g_iret hx hb hr hlocks hG (by first | exact Or.inl ⟨jq_2, rfl, rfl, rfl, hC_2, hD_2, hR_2, hO_2, hth_2⟩ | exact Or.inr (Or.inl ⟨rfl, rfl, hC_2, hR_2, hO_2, hth_2⟩) | exact Or.inr (Or.inr ⟨jq_2, rfl, rfl, hx_2, hC_2, hD_2, hR_2, hO_2, hth_2⟩)) dX10_derivedValue_18
    · skip
      exact absurd c5 (by decide)

abbrev PX10_derivedTime (ad : Nat → Nat) (A : Nat → Nat → Int32) (J : Nat → Nat → Int64) (G : Nat → Nat → Int) (x : Int32) : Option Value → (Nat → Nat → Int32) → (Nat → Nat → Int64) → Prop := fun v_ A1 J1 => (∃ (jq : Nat), v_ = some (.int (zI (mDers G 48 jq))) ∧ J = J1 ∧ (x = nI jq) ∧ (jq < 8) ∧ (mDers G 46 jq = 1) ∧ (MRep A1 (mDers G)) ∧ (MOnly A A1) ∧ (A1 28 34 = nI 0)) ∨ (v_ = some (.int (nI 0)) ∧ J = J1 ∧ (¬ (0 ≤ x.toInt ∧ x.toInt ≤ 7)) ∧ (MRep A1 (mDers G)) ∧ (MOnly A A1) ∧ (A1 28 34 = nI 1)) ∨ (∃ (jq : Nat), v_ = some (.int (nI 0)) ∧ J = J1 ∧ (x = nI jq) ∧ (jq < 8) ∧ (mDers G 46 jq = 0) ∧ (MRep A1 (mDers G)) ∧ (MOnly A A1) ∧ (A1 28 34 = nI 2))
set_option maxHeartbeats 4000000 in
set_option maxRecDepth 100000 in
theorem cX10_derivedTimeC (l : Launch) (D : va_G) (cy : Nat → ClassId) (base : Nat) (ad : Nat → Nat) (n : Nat) (A : Nat → Nat → Int32) (J : Nat → Nat → Int64) (G : Nat → Nat → Int) (x : Int32) (hM : MRep A G) (hdv : mDvOk G) (hdr : mDrOk G) (hn : 0 ≤ G 28 0 ∧ G 28 0 ≤ 12) (hs : ∀ j, 0 ≤ G 41 j ∧ G 41 j < 1000000) : gMet l yX10_derivedTime wsX10_derivedTime ({ frames := 3, cells := 0, slots := 0, locals := 69 } : Room) D cy base ad n A J [.ref (ad 28), .int x] (PX10_derivedTime ad A J G x) := by
  refine g_ofW (cc := cX10_derivedTime) (maxL := 2) (ret := (some .int)) (by decide) rfl (Nat.le_of_ble_eq_true rfl) ?_
  intro pM eM sM mM aM bM methM cM H locs ls hx hb hr hts hown hlocks hml hE hG hl
  have hl : lv_has ls 2 [(0, .ref (ad 28)), (1, .int x)] := hl
  have hinX10 : ∀ w ∈ u_ws RX10 TX10 35, w ∈ wsX10_derivedTime := by decide +kernel
  refine lv_aload_n hx hb dX10_derivedTime_0 rfl (lv_at hl 0 rfl) ?_
  refine lv_iload_n hx hb dX10_derivedTime_1 rfl (lv_at hl 1 rfl) ?_
  refine g_callV (As := [.int x]) (rest := []) (r := (RX10, TX10, 35)) ⟨hx, hb, hml, hown, hts⟩ hE hG (cX10_isDerivedC l D cy base ad n A J G x (by first | exact hM | exact hM.st | exact hM.pa | exact hM.th _ | exact (hM.th _).st | exact (hM.th _).pa | exact (hM.th _).th _ | exact ((hM.th _).th _).st) (by first | assumption | omega) (by first | assumption | omega) (by first | assumption | omega) (by first | assumption | omega)) (cwV 1 hts gX10_derivedTime_X10_isDerived rfl rfl rfl (by decide +kernel) ⟨Nat.le_of_ble_eq_true rfl, Nat.le_of_ble_eq_true rfl⟩) (by omega) rfl rfl rfl hl.1 rfl (Nat.le_of_ble_eq_true rfl) dX10_derivedTime_2 ⟨Nat.zero_le _, Nat.zero_le _⟩ (fun v_ A2 J2 H locs hp hG => ?_)
  rcases hp with ⟨jq_2, rfl, rfl, hx_2, hC_2, hD_2, hR_2, hO_2, hth_2⟩ | ⟨rfl, rfl, hC_2, hR_2, hO_2, hth_2⟩ | ⟨jq_2, rfl, rfl, hx_2, hC_2, hD_2, hR_2, hO_2, hth_2⟩
  · refine W.eq (g2 := F0 mM 5 ls [.int (nI 1)]) rfl ?_
    subst hx_2
    refine lv_if_eq (tgt := 17) hx hb dX10_derivedTime_5 (by decide) (fun c5 => ?_) (fun c5 => ?_)
    · skip
      exact absurd c5 (by decide)
    · skip
      refine lv_aload_n hx hb dX10_derivedTime_8 rfl (lv_at hl 0 rfl) ?_
      refine g_get (C := RX10) (T := TX10) (NN := 35) (ci := 10) hx hb hts hinX10 hown hE hG (k := 28) (by omega) rfl rfl 33 (by decide) (hts (.fieldLink RX10 68 "CommutatorModel" "derivedAt" "[I") (List.mem_of_getElem? (i := 1) rfl)) rfl (v := .ref (ad 48)) rfl dX10_derivedTime_9 ?_
      refine lv_iload_n hx hb dX10_derivedTime_12 rfl (lv_at hl 1 rfl) ?_
      refine g_iald hx hb hE hG (k := 48) (by omega) rfl jq_2 (rfl) (by omega) (by omega) dX10_derivedTime_13 ?_
      refine g_top (y := zI (mDers G 48 jq_2)) (hR_2 48 jq_2 (by omega) (by omega) (by omega)) ?_
      refine lv_goto (tgt := 18) hx hb dX10_derivedTime_14 (by decide) ?_
      exact g_iret hx hb hr hlocks hG (by first | exact Or.inl ⟨jq_2, rfl, rfl, rfl, hC_2, hD_2, hR_2, hO_2, hth_2⟩ | exact Or.inr (Or.inl ⟨rfl, rfl, hC_2, hR_2, hO_2, hth_2⟩) | exact Or.inr (Or.inr ⟨jq_2, rfl, rfl, hx_2, hC_2, hD_2, hR_2, hO_2, hth_2⟩)) dX10_derivedTime_18
  · refine W.eq (g2 := F0 mM 5 ls [.int (nI 0)]) rfl ?_
    refine lv_if_eq (tgt := 17) hx hb dX10_derivedTime_5 (by decide) (fun c5 => ?_) (fun c5 => ?_)
    · skip
      refine lv_iconst (v := nI 0) hx hb dX10_derivedTime_17 (by decide) ?_
      exact g_iret hx hb hr hlocks hG (by first | exact Or.inl ⟨jq_2, rfl, rfl, rfl, hC_2, hD_2, hR_2, hO_2, hth_2⟩ | exact Or.inr (Or.inl ⟨rfl, rfl, hC_2, hR_2, hO_2, hth_2⟩) | exact Or.inr (Or.inr ⟨jq_2, rfl, rfl, hx_2, hC_2, hD_2, hR_2, hO_2, hth_2⟩)) dX10_derivedTime_18
    · skip
      exact absurd c5 (by decide)
  · refine W.eq (g2 := F0 mM 5 ls [.int (nI 0)]) rfl ?_
    refine lv_if_eq (tgt := 17) hx hb dX10_derivedTime_5 (by decide) (fun c5 => ?_) (fun c5 => ?_)
    · skip
      refine lv_iconst (v := nI 0) hx hb dX10_derivedTime_17 (by decide) ?_
      exact g_iret hx hb hr hlocks hG (by first | exact Or.inl ⟨jq_2, rfl, rfl, rfl, hC_2, hD_2, hR_2, hO_2, hth_2⟩ | exact Or.inr (Or.inl ⟨rfl, rfl, hC_2, hR_2, hO_2, hth_2⟩) | exact Or.inr (Or.inr ⟨jq_2, rfl, rfl, hx_2, hC_2, hD_2, hR_2, hO_2, hth_2⟩)) dX10_derivedTime_18
    · skip
      exact absurd c5 (by decide)
