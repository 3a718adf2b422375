theorem pl_0 {pN kp r : Nat} (hp : pN = 1 ∨ pN = 2 ∨ pN = 4) (hk : kp < pN) (h : r < kp) (h2 : (r : Int) % (pN : Int) = (kp : Int)) : False := by
  rcases hp with rfl | rfl | rfl <;> omega
theorem pl_4 {pN kp cN r : Nat} (hp : pN = 1 ∨ pN = 2 ∨ pN = 4) (hc : cN ≤ 3 + pN ∧ kp ≤ cN ∧ ((cN : Int) - (kp : Int)) % (pN : Int) = 0) (hk : kp < pN) (h4 : 4 ≤ cN) (h : r < cN) (h2 : (r : Int) % (pN : Int) = (kp : Int)) (h3 : 4 ≤ r) : False := by
  rcases hp with rfl | rfl | rfl <;> omega
theorem pl_step {pN kp cN : Nat} {P : Nat → Prop} (hp : pN = 1 ∨ pN = 2 ∨ pN = 4) (hc : cN ≤ 3 + pN ∧ kp ≤ cN ∧ ((cN : Int) - (kp : Int)) % (pN : Int) = 0) (hk : kp < pN) : ((∀ r : Nat, r < cN → (r : Int) % (pN : Int) = (kp : Int) → P r) ∧ P cN) ↔ ∀ r : Nat, r < cN + pN → (r : Int) % (pN : Int) = (kp : Int) → P r := by
  obtain ⟨h1, h2, h3⟩ := hc
  constructor
  · intro ⟨h, h'⟩ r hr hm
    by_cases hq : r < cN
    · exact h r hq hm
    · have : r = cN := by rcases hp with rfl | rfl | rfl <;> omega
      subst this
      exact h'
  · intro h
    refine ⟨fun r hr hm => h r (by omega) hm, h cN (by omega) ?_⟩
    rcases hp with rfl | rfl | rfl <;> omega
abbrev PL_least (ad : Nat → Nat) (A : Nat → Nat → Int32) (J : Nat → Nat → Int64) (iq : Nat) (wq cq : Int) : Option Value → (Nat → Nat → Int32) → (Nat → Nat → Int64) → Prop := fun v_ A1 J1 => (v_ = some (.int (zI (gLo cq wq))) ∧ A = A1 ∧ J = J1)
set_option maxHeartbeats 4000000 in
set_option maxRecDepth 100000 in
theorem cL_leastC (l : Launch) (D : va_G) (cy : Nat → ClassId) (base : Nat) (ad : Nat → Nat) (n : Nat) (A : Nat → Nat → Int32) (J : Nat → Nat → Int64) (iq : Nat) (wq cq : Int) (hi : iq < 12) (hA0 : A 28 (4 * iq) = zI wq) (hA1 : A 28 (4 * iq + 1) = zI cq) (hw : 1 ≤ wq ∧ wq ≤ 12) (hc : 0 ≤ cq ∧ cq ≤ 3) : gMet l yL_least wsL_least ({ frames := 0, cells := 0, slots := 0, locals := 0 } : Room) D cy base ad n A J [.ref (ad 28), .int (nI iq)] (PL_least ad A J iq wq cq) := by
  refine g_ofW (cc := cL_least) (maxL := 3) (ret := (some .int)) (by decide) rfl (Nat.le_of_ble_eq_true rfl) ?_
  intro pM eM sM mM aM bM methM cM H locs ls hx hb hr hts hown hlocks hml hE hG hl
  have hl : lv_has ls 3 [(0, .ref (ad 28)), (1, .int (nI iq))] := hl
  have hh := gHf_range hw.1 hw.2
  refine lv_iconst (v := nI 1) hx hb dL_least_0 (by decide) ?_
  refine lv_aload_n hx hb dL_least_1 rfl (lv_at hl 0 rfl) ?_
  refine lv_iconst (v := nI 4) hx hb dL_least_2 (by decide) ?_
  refine lv_iload_n hx hb dL_least_3 rfl (lv_at hl 1 rfl) ?_
  refine lv_imul hx hb dL_least_4 ?_
  refine g_top (y := nI (4 * iq)) (by rw [pk_mul]) ?_
  refine g_iald hx hb hE hG (k := 28) (by omega) rfl (4 * iq) (rfl) (by omega) (by omega) dL_least_5 ?_
  refine g_top (y := zI wq) (hA0) ?_
  refine lv_iconst (v := nI 1) hx hb dL_least_6 (by decide) ?_
  refine lv_isub hx hb dL_least_7 ?_
  refine g_top (y := zI (wq - 1)) (zI_sub_in _ _) ?_
  refine lv_ishl hx hb dL_least_8 ?_
  refine g_top (y := zI (gHf wq)) (shl_hf hw.1 hw.2) ?_
  refine lv_istore_n (lv' := [(2, .int (zI (gHf wq))), (0, .ref (ad 28)), (1, .int (nI iq))]) hx hb dL_least_9 rfl hl (by decide) rfl (fun ls hl => ?_)
  refine lv_aload_n hx hb dL_least_10 rfl (lv_at hl 1 rfl) ?_
  refine lv_iconst (v := nI 4) hx hb dL_least_11 (by decide) ?_
  refine lv_iload_n hx hb dL_least_12 rfl (lv_at hl 2 rfl) ?_
  refine lv_imul hx hb dL_least_13 ?_
  refine g_top (y := nI (4 * iq)) (by rw [pk_mul]) ?_
  refine lv_iconst (v := nI 1) hx hb dL_least_14 (by decide) ?_
  refine lv_iadd hx hb dL_least_15 ?_
  refine g_top (y := nI (4 * iq + 1)) (by rw [nI_add]) ?_
  refine g_iald hx hb hE hG (k := 28) (by omega) rfl (4 * iq + 1) (rfl) (by omega) (by omega) dL_least_16 ?_
  refine g_top (y := zI cq) (hA1) ?_
  refine lv_if_ne (tgt := 24) hx hb dL_least_17 (by decide) (fun c17 => ?_) (fun c17 => ?_)
  · skip
    have c17 : ¬ ((zI cq) = nI 0) := c17
    have c17 : ¬ (cq = ((0 : Nat) : Int)) := fun z9 => c17 ((cmp_eq (zI_toInt (by omega) (by omega)) (nI_toInt (by omega))).mpr z9)
    refine lv_aload_n hx hb dL_least_24 rfl (lv_at hl 1 rfl) ?_
    refine lv_iconst (v := nI 4) hx hb dL_least_25 (by decide) ?_
    refine lv_iload_n hx hb dL_least_26 rfl (lv_at hl 2 rfl) ?_
    refine lv_imul hx hb dL_least_27 ?_
    refine g_top (y := nI (4 * iq)) (by rw [pk_mul]) ?_
    refine lv_iconst (v := nI 1) hx hb dL_least_28 (by decide) ?_
    refine lv_iadd hx hb dL_least_29 ?_
    refine g_top (y := nI (4 * iq + 1)) (by rw [nI_add]) ?_
    refine g_iald hx hb hE hG (k := 28) (by omega) rfl (4 * iq + 1) (rfl) (by omega) (by omega) dL_least_30 ?_
    refine g_top (y := zI cq) (hA1) ?_
    refine lv_iconst (v := nI 2) hx hb dL_least_31 (by decide) ?_
    refine lv_icmp_ne (tgt := 41) hx hb dL_least_32 (by decide) (fun c32 => ?_) (fun c32 => ?_)
    · skip
      have c32 : ¬ (cq = ((2 : Nat) : Int)) := fun z9 => c32 ((cmp_eq (zI_toInt (by omega) (by omega)) (nI_toInt (by omega))).mpr z9)
      refine lv_iload_n hx hb dL_least_41 rfl (lv_at hl 0 rfl) ?_
      refine lv_ineg hx hb dL_least_42 ?_
      refine g_top (y := zI (-(gHf wq))) (zI_neg _) ?_
      exact g_iret hx hb hr hlocks hG ⟨(ret_i (by unfold gLo; (repeat' split) <;> omega)), rfl, rfl⟩ dL_least_43
    · skip
      have c32 : cq = ((2 : Nat) : Int) := (cmp_eq (zI_toInt (by omega) (by omega)) (nI_toInt (by omega))).mp c32
      refine lv_iconst (v := nI 1) hx hb dL_least_35 (by decide) ?_
      refine lv_iload_n hx hb dL_least_36 rfl (lv_at hl 0 rfl) ?_
      refine lv_isub hx hb dL_least_37 ?_
      refine g_top (y := zI (1 - (gHf wq))) (zI_sub_ni _ _) ?_
      refine lv_goto (tgt := 43) hx hb dL_least_38 (by decide) ?_
      exact g_iret hx hb hr hlocks hG ⟨(ret_i (by unfold gLo; (repeat' split) <;> omega)), rfl, rfl⟩ dL_least_43
  · skip
    have c17 : (zI cq) = nI 0 := c17
    have c17 : cq = ((0 : Nat) : Int) := (cmp_eq (zI_toInt (by omega) (by omega)) (nI_toInt (by omega))).mp c17
    refine lv_iconst (v := nI 0) hx hb dL_least_20 (by decide) ?_
    refine lv_goto (tgt := 43) hx hb dL_least_21 (by decide) ?_
    exact g_iret hx hb hr hlocks hG ⟨(ret_n (by unfold gLo; (repeat' split) <;> omega)), rfl, rfl⟩ dL_least_43

abbrev PL_most (ad : Nat → Nat) (A : Nat → Nat → Int32) (J : Nat → Nat → Int64) (iq : Nat) (wq cq : Int) : Option Value → (Nat → Nat → Int32) → (Nat → Nat → Int64) → Prop := fun v_ A1 J1 => (v_ = some (.int (zI (gHi cq wq))) ∧ A = A1 ∧ J = J1)
set_option maxHeartbeats 4000000 in
set_option maxRecDepth 100000 in
theorem cL_mostC (l : Launch) (D : va_G) (cy : Nat → ClassId) (base : Nat) (ad : Nat → Nat) (n : Nat) (A : Nat → Nat → Int32) (J : Nat → Nat → Int64) (iq : Nat) (wq cq : Int) (hi : iq < 12) (hA0 : A 28 (4 * iq) = zI wq) (hA1 : A 28 (4 * iq + 1) = zI cq) (hw : 1 ≤ wq ∧ wq ≤ 12) (hc : 0 ≤ cq ∧ cq ≤ 3) : gMet l yL_most wsL_most ({ frames := 0, cells := 0, slots := 0, locals := 0 } : Room) D cy base ad n A J [.ref (ad 28), .int (nI iq)] (PL_most ad A J iq wq cq) := by
  refine g_ofW (cc := cL_most) (maxL := 3) (ret := (some .int)) (by decide) rfl (Nat.le_of_ble_eq_true rfl) ?_
  intro pM eM sM mM aM bM methM cM H locs ls hx hb hr hts hown hlocks hml hE hG hl
  have hl : lv_has ls 3 [(0, .ref (ad 28)), (1, .int (nI iq))] := hl
  have hh := gHf_range hw.1 hw.2
  refine lv_iconst (v := nI 1) hx hb dL_most_0 (by decide) ?_
  refine lv_aload_n hx hb dL_most_1 rfl (lv_at hl 0 rfl) ?_
  refine lv_iconst (v := nI 4) hx hb dL_most_2 (by decide) ?_
  refine lv_iload_n hx hb dL_most_3 rfl (lv_at hl 1 rfl) ?_
  refine lv_imul hx hb dL_most_4 ?_
  refine g_top (y := nI (4 * iq)) (by rw [pk_mul]) ?_
  refine g_iald hx hb hE hG (k := 28) (by omega) rfl (4 * iq) (rfl) (by omega) (by omega) dL_most_5 ?_
  refine g_top (y := zI wq) (hA0) ?_
  refine lv_iconst (v := nI 1) hx hb dL_most_6 (by decide) ?_
  refine lv_isub hx hb dL_most_7 ?_
  refine g_top (y := zI (wq - 1)) (zI_sub_in _ _) ?_
  refine lv_ishl hx hb dL_most_8 ?_
  refine g_top (y := zI (gHf wq)) (shl_hf hw.1 hw.2) ?_
  refine lv_istore_n (lv' := [(2, .int (zI (gHf wq))), (0, .ref (ad 28)), (1, .int (nI iq))]) hx hb dL_most_9 rfl hl (by decide) rfl (fun ls hl => ?_)
  refine lv_aload_n hx hb dL_most_10 rfl (lv_at hl 1 rfl) ?_
  refine lv_iconst (v := nI 4) hx hb dL_most_11 (by decide) ?_
  refine lv_iload_n hx hb dL_most_12 rfl (lv_at hl 2 rfl) ?_
  refine lv_imul hx hb dL_most_13 ?_
  refine g_top (y := nI (4 * iq)) (by rw [pk_mul]) ?_
  refine lv_iconst (v := nI 1) hx hb dL_most_14 (by decide) ?_
  refine lv_iadd hx hb dL_most_15 ?_
  refine g_top (y := nI (4 * iq + 1)) (by rw [nI_add]) ?_
  refine g_iald hx hb hE hG (k := 28) (by omega) rfl (4 * iq + 1) (rfl) (by omega) (by omega) dL_most_16 ?_
  refine g_top (y := zI cq) (hA1) ?_
  refine lv_if_ne (tgt := 28) hx hb dL_most_17 (by decide) (fun c17 => ?_) (fun c17 => ?_)
  · skip
    have c17 : ¬ ((zI cq) = nI 0) := c17
    have c17 : ¬ (cq = ((0 : Nat) : Int)) := fun z9 => c17 ((cmp_eq (zI_toInt (by omega) (by omega)) (nI_toInt (by omega))).mpr z9)
    refine lv_iload_n hx hb dL_most_28 rfl (lv_at hl 0 rfl) ?_
    refine lv_iconst (v := nI 1) hx hb dL_most_29 (by decide) ?_
    refine lv_isub hx hb dL_most_30 ?_
    refine g_top (y := zI ((gHf wq) - 1)) (zI_sub_in _ _) ?_
    exact g_iret hx hb hr hlocks hG ⟨(ret_i (by unfold gHi; (repeat' split) <;> omega)), rfl, rfl⟩ dL_most_31
  · skip
    have c17 : (zI cq) = nI 0 := c17
    have c17 : cq = ((0 : Nat) : Int) := (cmp_eq (zI_toInt (by omega) (by omega)) (nI_toInt (by omega))).mp c17
    refine lv_iconst (v := nI 2) hx hb dL_most_20 (by decide) ?_
    refine lv_iload_n hx hb dL_most_21 rfl (lv_at hl 0 rfl) ?_
    refine lv_imul hx hb dL_most_22 ?_
    refine g_top (y := zI (2 * (gHf wq))) (zI_mul_ni _ _) ?_
    refine lv_iconst (v := nI 1) hx hb dL_most_23 (by decide) ?_
    refine lv_isub hx hb dL_most_24 ?_
    refine g_top (y := zI ((2 * (gHf wq)) - 1)) (zI_sub_in _ _) ?_
    refine lv_goto (tgt := 31) hx hb dL_most_25 (by decide) ?_
    exact g_iret hx hb hr hlocks hG ⟨(ret_i (by unfold gHi; (repeat' split) <;> omega)), rfl, rfl⟩ dL_most_31

abbrev PL_many (ad : Nat → Nat) (A : Nat → Nat → Int32) (J : Nat → Nat → Int64) (xq : Int64) : Option Value → (Nat → Nat → Int32) → (Nat → Nat → Int64) → Prop := fun v_ A1 J1 => (v_ = some (.int (nI (nCnt (lnat xq) 64))) ∧ A = A1 ∧ J = J1)
set_option maxHeartbeats 4000000 in
set_option maxRecDepth 100000 in
theorem cL_manyC (l : Launch) (D : va_G) (cy : Nat → ClassId) (base : Nat) (ad : Nat → Nat) (n : Nat) (A : Nat → Nat → Int32) (J : Nat → Nat → Int64) (xq : Int64)  : gMet l yL_many wsL_many ({ frames := 0, cells := 0, slots := 0, locals := 0 } : Room) D cy base ad n A J [.long xq] (PL_many ad A J xq) := by
  refine g_ofW (cc := cL_many) (maxL := 5) (ret := (some .int)) (by decide) rfl (Nat.le_of_ble_eq_true rfl) ?_
  intro pM eM sM mM aM bM methM cM H locs ls hx hb hr hts hown hlocks hml hE hG hl
  have hl : lv_has ls 5 [(0, .long xq)] := hl
  refine lv_iconst (v := nI 0) hx hb dL_many_0 (by decide) ?_
  refine lv_istore_n (lv' := [(2, .int (nI 0)), (0, .long xq)]) hx hb dL_many_1 rfl hl (by decide) rfl (fun ls hl => ?_)
  refine lv_lload_n hx hb dL_many_2 rfl (lv_at hl 1 rfl) ?_
  refine lv_lstore_n (lv' := [(3, .long xq), (2, .int (nI 0)), (0, .long xq)]) hx hb dL_many_3 rfl hl (by decide) rfl (fun ls hl => ?_)
  have LLq4 : ∀ (fuel : Nat) (rq : Int64) (kq : Nat) (hk : kq + nCnt (lnat rq) 64 = nCnt (lnat xq) 64) (_ : nCnt (lnat rq) 64 < fuel) (H : Heap) (locs : List Loc) (ls : Array Slot), gH D base sM ad (33 + 2 * n) (gw cy ad n A J) H locs → lv_has ls 5 [(3, .long rq), (2, .int (nI kq)), (0, .long xq)] → W pM l eM ({ frames := 0, cells := 0, slots := 0, locals := 0 } : Room) sM mM aM bM methM cM H locs (0) (0) (MQ bM (gPost D cy base ad n (PL_many ad A J xq)) aM sM 0 0 (fun q => base ≤ q)) (F0 mM 4 ls []) := by
    intro fuel
    induction fuel with
    | zero => intro rq kq hk hms H locs ls hG hl; exact absurd hms (Nat.not_lt_zero _)
    | succ fuel ihq4 =>
      intro rq kq hk hms H locs ls hG hl
      refine lv_lload_n hx hb dL_many_4 rfl (lv_at hl 0 rfl) ?_
      refine lv_lconst (v := 0) hx hb dL_many_5 (by decide) ?_
      refine W.lcmp hx hb dL_many_6 ?_
      refine lv_if_eq (tgt := 22) hx hb dL_many_7 (by decide) (fun c7 => ?_) (fun c7 => ?_)
      · skip
        have c7 : rq = 0 := (lg_cmp_eq _ _).mp c7
        refine lv_iload_n hx hb dL_many_22 rfl (lv_at hl 1 rfl) ?_
        exact g_iret hx hb hr hlocks hG ⟨(ret_nn (by rw [c7, many_0] at hk; omega)), rfl, rfl⟩ dL_many_23
      · skip
        have c7 : ¬ (rq = 0) := fun z9 => c7 ((lg_cmp_eq _ _).mpr z9)
        refine lv_iinc (v := nI (kq + 1)) (lv' := [(2, .int (nI (kq + 1))), (3, .long rq), (0, .long xq)]) hx hb dL_many_10 hl (k := 1) rfl (by rw [show (Int32.ofInt 1 : Int32) = nI 1 from rfl, nI_add]) (by decide) rfl (fun ls hl => ?_)
        refine lv_lload_n hx hb dL_many_13 rfl (lv_at hl 1 rfl) ?_
        refine lv_lload_n hx hb dL_many_14 rfl (lv_at hl 1 rfl) ?_
        refine lv_lconst (v := 1) hx hb dL_many_15 (by decide) ?_
        refine lv_lsub hx hb dL_many_16 ?_
        refine lv_land hx hb dL_many_17 ?_
        refine lv_lstore_n (lv' := [(3, .long (rq &&& (rq - 1))), (2, .int (nI (kq + 1))), (0, .long xq)]) hx hb dL_many_18 rfl hl (by decide) rfl (fun ls hl => ?_)
        refine lv_goto (tgt := 4) hx hb dL_many_19 (by decide) ?_
        exact ihq4 (rq &&& (rq - 1)) (kq + 1) (by have := many_s c7; omega) (by have := many_s c7; omega) _ _ _ hG (lv_sub hl [0, 1, 2] rfl)
  exact LLq4 _ xq 0 (by omega) (Nat.lt_succ_self _) _ _ _ hG (lv_sub hl [0, 1, 2] rfl)

abbrev PL_place (ad : Nat → Nat) (A : Nat → Nat → Int32) (J : Nat → Nat → Int64) (G : Nat → Nat → Int) (wN pN eN : Nat) : Option Value → (Nat → Nat → Int32) → (Nat → Nat → Int64) → Prop := fun v_ A1 J1 => (v_ = some (.int (zI (-1))) ∧ A = A1 ∧ J = J1 ∧ (mNone G (wN : Int) (pN : Int) (eN : Int) (pN : Int) 0)) ∨ (∃ (ph fr : Nat), v_ = some (.int (nI (100 * ph + fr))) ∧ A = A1 ∧ J = J1 ∧ (ph < pN ∧ fr + wN ≤ 48 ∧ (fr : Int) + (wN : Int) ≤ mLim (eN : Int)) ∧ (mFree G (fr : Int) (wN : Int) (ph : Int) (pN : Int) (eN : Int)) ∧ (mNone G (wN : Int) (pN : Int) (eN : Int) (ph : Int) (fr : Int)))
set_option maxHeartbeats 4000000 in
set_option maxRecDepth 100000 in
theorem cL_placeC (l : Launch) (D : va_G) (cy : Nat → ClassId) (base : Nat) (ad : Nat → Nat) (n : Nat) (A : Nat → Nat → Int32) (J : Nat → Nat → Int64) (G : Nat → Nat → Int) (wN pN eN : Nat) (hU : UsR J G) (hJ9 : J 29 = J 3) (hwN : 1 ≤ wN ∧ wN ≤ 12) (hpN : pN = 1 ∨ pN = 2 ∨ pN = 4) (heN : eN = 1 ∨ (eN = 2 ∧ pN = 1)) : gMet l yL_place wsL_place ({ frames := 0, cells := 0, slots := 0, locals := 0 } : Room) D cy base ad n A J [.ref (ad 29), .int (nI wN), .int (nI pN), .int (nI eN)] (PL_place ad A J G wN pN eN) := by
  refine g_ofW (cc := cL_place) (maxL := 10) (ret := (some .int)) (by decide) rfl (Nat.le_of_ble_eq_true rfl) ?_
  intro pM eM sM mM aM bM methM cM H locs ls hx hb hr hts hown hlocks hml hE hG hl
  have hl : lv_has ls 10 [(0, .ref (ad 29)), (1, .int (nI wN)), (2, .int (nI pN)), (3, .int (nI eN))] := hl
  have hlm : mLim (eN : Int) = ((48 / eN : Nat) : Int) := by rcases heN with rfl | ⟨rfl, -⟩ <;> rfl
  have hlm2 : 48 / eN ≤ 48 := Nat.div_le_self _ _
  have heq : ((eN - 1 : Nat) : Int) + 1 = (eN : Int) := by omega
  have hdv : (eN = 1 ∧ 48 / eN = 48) ∨ (eN = 2 ∧ pN = 1 ∧ 48 / eN = 24) := by rcases heN with rfl | ⟨rfl, h9⟩; exact Or.inl ⟨rfl, rfl⟩; exact Or.inr ⟨rfl, h9, rfl⟩
  refine lv_iconst (v := nI 0) hx hb dL_place_0 (by decide) ?_
  refine lv_istore (lv' := [(4, .int (nI 0)), (0, .ref (ad 29)), (1, .int (nI wN)), (2, .int (nI pN)), (3, .int (nI eN))]) hx hb dL_place_1 hl (by decide) rfl (fun ls hl => ?_)
  have LLq3 : ∀ (fuel : Nat) (kp : Nat) (hkp : kp ≤ pN) (hno : mNone G (wN : Int) (pN : Int) (eN : Int) (kp : Int) 0) (_ : (pN - kp) < fuel) (H : Heap) (locs : List Loc) (ls : Array Slot), gH D base sM ad (33 + 2 * n) (gw cy ad n A J) H locs → lv_has ls 10 [(0, .ref (ad 29)), (1, .int (nI wN)), (2, .int (nI pN)), (3, .int (nI eN)), (4, .int (nI kp))] → W pM l eM ({ frames := 0, cells := 0, slots := 0, locals := 0 } : Room) sM mM aM bM methM cM H locs (0) (0) (MQ bM (gPost D cy base ad n (PL_place ad A J G wN pN eN)) aM sM 0 0 (fun q => base ≤ q)) (F0 mM 3 ls []) := by
    intro fuel
    induction fuel with
    | zero => intro kp hkp hno hms H locs ls hG hl; exact absurd hms (Nat.not_lt_zero _)
    | succ fuel ihq3 =>
      intro kp hkp hno hms H locs ls hG hl
      refine lv_iload hx hb dL_place_3 (lv_at hl 4 rfl) ?_
      refine lv_iload_n hx hb dL_place_5 rfl (lv_at hl 2 rfl) ?_
      refine lv_icmp_ge (tgt := 124) hx hb dL_place_6 (by decide) (fun c6 => ?_) (fun c6 => ?_)
      · skip
        have c6 : pN ≤ kp := (nI_leI (by omega) (by omega)).mp c6
        refine lv_iconst (v := zI (-1)) hx hb dL_place_124 (by decide) ?_
        exact g_iret hx hb hr hlocks hG (Or.inl ⟨rfl, rfl, rfl, by rw [show (pN : Int) = (kp : Int) from by omega] at *; exact hno⟩) dL_place_125
      · skip
        have c6 : ¬ (pN ≤ kp) := fun z9 => c6 ((nI_leI (by omega) (by omega)).mpr z9)
        refine lv_iconst (v := nI 0) hx hb dL_place_9 (by decide) ?_
        refine lv_istore (lv' := [(5, .int (nI 0)), (0, .ref (ad 29)), (1, .int (nI wN)), (2, .int (nI pN)), (3, .int (nI eN)), (4, .int (nI kp))]) hx hb dL_place_10 hl (by decide) rfl (fun ls hl => ?_)
        have LLq12 : ∀ (fuel : Nat) (ko : Nat) (hko : ko + wN ≤ 48 / eN + 1 ∨ ko = 0) (hni : mNone G (wN : Int) (pN : Int) (eN : Int) (kp : Int) (ko : Int)) (_ : (49 - ko) < fuel) (H : Heap) (locs : List Loc) (ls : Array Slot), gH D base sM ad (33 + 2 * n) (gw cy ad n A J) H locs → lv_has ls 10 [(0, .ref (ad 29)), (1, .int (nI wN)), (2, .int (nI pN)), (3, .int (nI eN)), (4, .int (nI kp)), (5, .int (nI ko))] → W pM l eM ({ frames := 0, cells := 0, slots := 0, locals := 0 } : Room) sM mM aM bM methM cM H locs (0) (0) (MQ bM (gPost D cy base ad n (PL_place ad A J G wN pN eN)) aM sM 0 0 (fun q => base ≤ q)) (F0 mM 12 ls []) := by
          intro fuel
          induction fuel with
          | zero => intro ko hko hni hms H locs ls hG hl; exact absurd hms (Nat.not_lt_zero _)
          | succ fuel ihq12 =>
            intro ko hko hni hms H locs ls hG hl
            refine lv_iload hx hb dL_place_12 (lv_at hl 5 rfl) ?_
            refine lv_iload_n hx hb dL_place_14 rfl (lv_at hl 1 rfl) ?_
            refine lv_iadd hx hb dL_place_15 ?_
            refine g_top (y := nI (ko + wN)) (by rw [nI_add]) ?_
            refine lv_bipush (v := nI 48) hx hb dL_place_16 (by decide) ?_
            refine lv_iload_n hx hb dL_place_18 rfl (lv_at hl 3 rfl) ?_
            refine lv_idiv hx hb dL_place_19 (nI_nz (by omega) (by omega)) ?_
            refine g_top (y := nI (48 / eN)) (pk_div (by omega) (by omega) (by omega)) ?_
            refine lv_icmp_gt (tgt := 118) hx hb dL_place_20 (by decide) (fun c20 => ?_) (fun c20 => ?_)
            · skip
              have c20 : (48 / eN) < (ko + wN) := (nI_ltI (by omega) (by omega)).mp c20
              refine lv_iinc (v := nI (kp + 1)) (lv' := [(4, .int (nI (kp + 1))), (0, .ref (ad 29)), (1, .int (nI wN)), (2, .int (nI pN)), (3, .int (nI eN)), (5, .int (nI ko))]) hx hb dL_place_118 hl (k := 4) rfl (by rw [show (Int32.ofInt 1 : Int32) = nI 1 from rfl, nI_add]) (by decide) rfl (fun ls hl => ?_)
              refine lv_goto (tgt := 3) hx hb dL_place_121 (by decide) ?_
              exact ihq3 (kp + 1) (by omega) (mNone_p hni (by omega)) (by omega) _ _ _ hG (lv_sub hl [1, 2, 3, 4, 0] rfl)
            · skip
              have c20 : ¬ ((48 / eN) < (ko + wN)) := fun z9 => c20 ((nI_ltI (by omega) (by omega)).mpr z9)
              refine lv_lconst (v := 1) hx hb dL_place_23 (by decide) ?_
              refine lv_iload_n hx hb dL_place_24 rfl (lv_at hl 1 rfl) ?_
              refine lv_lshl (v := gshl 1 (nI wN)) hx hb dL_place_25 rfl ?_
              refine lv_lconst (v := 1) hx hb dL_place_26 (by decide) ?_
              refine lv_lsub hx hb dL_place_27 ?_
              refine lv_iload hx hb dL_place_28 (lv_at hl 5 rfl) ?_
              refine lv_lshl (v := gshl ((gshl 1 (nI wN)) - 1) (nI ko)) hx hb dL_place_30 rfl ?_
              refine g_topl (y := gBt1 ko wN) (rfl) ?_
              refine lv_lstore (lv' := [(6, .long (gBt1 ko wN)), (0, .ref (ad 29)), (1, .int (nI wN)), (2, .int (nI pN)), (3, .int (nI eN)), (4, .int (nI kp)), (5, .int (nI ko))]) hx hb dL_place_31 hl (by decide) rfl (fun ls hl => ?_)
              refine lv_lload hx hb dL_place_33 (lv_at hl 0 rfl) ?_
              have LLq49 : ∀  (zq : Int64) (hz : gBt1 ko wN ||| zq = gBt ko wN (eN - 1)) (H : Heap) (locs : List Loc) (ls : Array Slot), gH D base sM ad (33 + 2 * n) (gw cy ad n A J) H locs → lv_has ls 10 [(6, .long (gBt1 ko wN)), (0, .ref (ad 29)), (1, .int (nI wN)), (2, .int (nI pN)), (3, .int (nI eN)), (4, .int (nI kp)), (5, .int (nI ko))] → W pM l eM ({ frames := 0, cells := 0, slots := 0, locals := 0 } : Room) sM mM aM bM methM cM H locs (0) (0) (MQ bM (gPost D cy base ad n (PL_place ad A J G wN pN eN)) aM sM 0 0 (fun q => base ≤ q)) (F0 mM 49 ls [.long zq, .long (gBt1 ko wN)]) := by
                intro zq hz H locs ls hG hl
                refine lv_lor hx hb dL_place_49 ?_
                refine g_topl (y := gBt ko wN (eN - 1)) (hz) ?_
                refine lv_lstore (lv' := [(6, .long (gBt ko wN (eN - 1))), (0, .ref (ad 29)), (1, .int (nI wN)), (2, .int (nI pN)), (3, .int (nI eN)), (4, .int (nI kp)), (5, .int (nI ko))]) hx hb dL_place_50 hl (by decide) rfl (fun ls hl => ?_)
                refine lv_iconst (v := nI 1) hx hb dL_place_52 (by decide) ?_
                refine lv_istore (lv' := [(8, .int (nI 1)), (6, .long (gBt ko wN (eN - 1))), (0, .ref (ad 29)), (1, .int (nI wN)), (2, .int (nI pN)), (3, .int (nI eN)), (4, .int (nI kp)), (5, .int (nI ko))]) hx hb dL_place_53 hl (by decide) rfl (fun ls hl => ?_)
                refine lv_iload hx hb dL_place_55 (lv_at hl 6 rfl) ?_
                refine lv_istore (lv' := [(9, .int (nI kp)), (8, .int (nI 1)), (6, .long (gBt ko wN (eN - 1))), (0, .ref (ad 29)), (1, .int (nI wN)), (2, .int (nI pN)), (3, .int (nI eN)), (4, .int (nI kp)), (5, .int (nI ko))]) hx hb dL_place_57 hl (by decide) rfl (fun ls hl => ?_)
                have LLq59 : ∀ (fuel : Nat) (fq cN : Nat) (hf1 : fq ≤ 1) (hc1 : cN ≤ 3 + pN ∧ kp ≤ cN ∧ ((cN : Int) - (kp : Int)) % (pN : Int) = 0) (hfq : (fq = 1 ↔ ∀ r : Nat, r < cN → (r : Int) % (pN : Int) = (kp : Int) → J 29 r &&& gBt ko wN (eN - 1) = 0)) (_ : (8 - cN) < fuel) (H : Heap) (locs : List Loc) (ls : Array Slot), gH D base sM ad (33 + 2 * n) (gw cy ad n A J) H locs → lv_has ls 10 [(0, .ref (ad 29)), (1, .int (nI wN)), (2, .int (nI pN)), (3, .int (nI eN)), (4, .int (nI kp)), (5, .int (nI ko)), (6, .long (gBt ko wN (eN - 1))), (8, .int (nI fq)), (9, .int (nI cN))] → W pM l eM ({ frames := 0, cells := 0, slots := 0, locals := 0 } : Room) sM mM aM bM methM cM H locs (0) (0) (MQ bM (gPost D cy base ad n (PL_place ad A J G wN pN eN)) aM sM 0 0 (fun q => base ≤ q)) (F0 mM 59 ls []) := by
                  intro fuel
                  induction fuel with
                  | zero => intro fq cN hf1 hc1 hfq hms H locs ls hG hl; exact absurd hms (Nat.not_lt_zero _)
                  | succ fuel ihq59 =>
                    intro fq cN hf1 hc1 hfq hms H locs ls hG hl
                    refine lv_iload hx hb dL_place_59 (lv_at hl 8 rfl) ?_
                    refine lv_iconst (v := nI 4) hx hb dL_place_61 (by decide) ?_
                    refine lv_icmp_ge (tgt := 98) hx hb dL_place_62 (by decide) (fun c62 => ?_) (fun c62 => ?_)
                    · skip
                      have c62 : 4 ≤ cN := (nI_leI (by omega) (by omega)).mp c62
                      have hF := gFreeQ_iff hU (o := ko) (w := wN) (t := eN - 1) (pe := (pN : Int)) (ph := (kp : Int)) (by omega) (by omega) (by omega) (by omega) (by omega) (by omega)
                      rw [heq] at hF
                      have hF2 : fq = 1 ↔ gFreeQ J (gBt ko wN (eN - 1)) (pN : Int) (kp : Int) := by
                        rw [hfq]
                        refine ⟨fun h9 r hr h8 => by rw [← hJ9]; exact h9 r (by omega) h8, fun h9 r hr h8 => ?_⟩
                        by_cases h4 : r < 4
                        · rw [hJ9]; exact h9 r h4 h8
                        · exact (pl_4 hpN hc1 (by omega) (by omega) hr h8 (by omega)).elim
                      refine lv_iload hx hb dL_place_98 (lv_at hl 7 rfl) ?_
                      refine lv_if_eq (tgt := 112) hx hb dL_place_100 (by decide) (fun c100 => ?_) (fun c100 => ?_)
                      · skip
                        have c100 : (nI fq) = nI 0 := c100
                        have c100 : fq = 0 := (nI_eq (by omega) (by omega)).mp c100
                        have hnf : ¬ mFree G (ko : Int) (wN : Int) (kp : Int) (pN : Int) (eN : Int) := fun z9 => by have := hF2.mpr (hF.mpr z9); omega
                        refine lv_iinc (v := nI (ko + 1)) (lv' := [(5, .int (nI (ko + 1))), (0, .ref (ad 29)), (1, .int (nI wN)), (2, .int (nI pN)), (3, .int (nI eN)), (4, .int (nI kp)), (6, .long (gBt ko wN (eN - 1))), (8, .int (nI fq)), (9, .int (nI cN))]) hx hb dL_place_112 hl (k := 5) rfl (by rw [show (Int32.ofInt 1 : Int32) = nI 1 from rfl, nI_add]) (by decide) rfl (fun ls hl => ?_)
                        refine lv_goto (tgt := 12) hx hb dL_place_115 (by decide) ?_
                        exact ihq12 (ko + 1) (by omega) (mNone_f hni hnf) (by omega) _ _ _ hG (lv_sub hl [1, 2, 3, 4, 5, 0] rfl)
                      · skip
                        have c100 : ¬ ((nI fq) = nI 0) := c100
                        have c100 : ¬ (fq = 0) := fun z9 => c100 ((nI_eq (by omega) (by omega)).mpr z9)
                        refine lv_bipush (v := nI 100) hx hb dL_place_103 (by decide) ?_
                        refine lv_iload hx hb dL_place_105 (lv_at hl 4 rfl) ?_
                        refine lv_imul hx hb dL_place_107 ?_
                        refine g_top (y := nI (100 * kp)) (by rw [pk_mul]) ?_
                        refine lv_iload hx hb dL_place_108 (lv_at hl 5 rfl) ?_
                        refine lv_iadd hx hb dL_place_110 ?_
                        refine g_top (y := nI (100 * kp + ko)) (by rw [nI_add]) ?_
                        exact g_iret hx hb hr hlocks hG (Or.inr ⟨kp, ko, rfl, rfl, rfl, ⟨by omega, by omega, by omega⟩, hF.mp (hF2.mp (by omega)), hni⟩) dL_place_111
                    · skip
                      have c62 : ¬ (4 ≤ cN) := fun z9 => c62 ((nI_leI (by omega) (by omega)).mpr z9)
                      have LLq87 : ∀  (gq : Nat) (hg1 : gq ≤ 1) (hgq : gq = 1 ↔ fq = 1 ∧ J 29 cN &&& gBt ko wN (eN - 1) = 0) (H : Heap) (locs : List Loc) (ls : Array Slot), gH D base sM ad (33 + 2 * n) (gw cy ad n A J) H locs → lv_has ls 10 [(0, .ref (ad 29)), (1, .int (nI wN)), (2, .int (nI pN)), (3, .int (nI eN)), (4, .int (nI kp)), (5, .int (nI ko)), (6, .long (gBt ko wN (eN - 1))), (8, .int (nI fq)), (9, .int (nI cN))] → W pM l eM ({ frames := 0, cells := 0, slots := 0, locals := 0 } : Room) sM mM aM bM methM cM H locs (0) (0) (MQ bM (gPost D cy base ad n (PL_place ad A J G wN pN eN)) aM sM 0 0 (fun q => base ≤ q)) (F0 mM 87 ls [.int (nI gq)]) := by
                        intro gq hg1 hgq H locs ls hG hl
                        refine lv_istore (lv' := [(8, .int (nI gq)), (0, .ref (ad 29)), (1, .int (nI wN)), (2, .int (nI pN)), (3, .int (nI eN)), (4, .int (nI kp)), (5, .int (nI ko)), (6, .long (gBt ko wN (eN - 1))), (9, .int (nI cN))]) hx hb dL_place_87 hl (by decide) rfl (fun ls hl => ?_)
                        refine lv_iload hx hb dL_place_89 (lv_at hl 8 rfl) ?_
                        refine lv_iload_n hx hb dL_place_91 rfl (lv_at hl 3 rfl) ?_
                        refine lv_iadd hx hb dL_place_92 ?_
                        refine g_top (y := nI (cN + pN)) (by rw [nI_add]) ?_
                        refine lv_istore (lv' := [(9, .int (nI (cN + pN))), (8, .int (nI gq)), (0, .ref (ad 29)), (1, .int (nI wN)), (2, .int (nI pN)), (3, .int (nI eN)), (4, .int (nI kp)), (5, .int (nI ko)), (6, .long (gBt ko wN (eN - 1)))]) hx hb dL_place_93 hl (by decide) rfl (fun ls hl => ?_)
                        refine lv_goto (tgt := 59) hx hb dL_place_95 (by decide) ?_
                        exact ihq59 gq (cN + pN) (by omega) (by rcases hpN with h9 | h9 | h9 <;> subst h9 <;> omega) (by rw [hgq, hfq]; exact pl_step hpN hc1 (by omega)) (by omega) _ _ _ hG (lv_sub hl [2, 3, 4, 5, 6, 7, 8, 1, 0] rfl)
                      refine lv_iload hx hb dL_place_65 (lv_at hl 7 rfl) ?_
                      refine lv_if_eq (tgt := 86) hx hb dL_place_67 (by decide) (fun c67 => ?_) (fun c67 => ?_)
                      · skip
                        have c67 : (nI fq) = nI 0 := c67
                        have c67 : fq = 0 := (nI_eq (by omega) (by omega)).mp c67
                        refine lv_iconst (v := nI 0) hx hb dL_place_86 (by decide) ?_
                        exact LLq87 0 (by omega) (by first | exact ⟨fun h9 => absurd h9 (by decide), fun h9 => absurd h9.2 c79⟩ | exact ⟨fun h9 => absurd h9 (by decide), fun h9 => absurd h9.1 (by omega)⟩ | exact ⟨fun _ => ⟨by omega, c79⟩, fun _ => rfl⟩) _ _ _ hG (lv_sub hl [0, 1, 2, 3, 4, 5, 6, 7, 8] rfl)
                      · skip
                        have c67 : ¬ ((nI fq) = nI 0) := c67
                        have c67 : ¬ (fq = 0) := fun z9 => c67 ((nI_eq (by omega) (by omega)).mpr z9)
                        refine lv_aload_n hx hb dL_place_70 rfl (lv_at hl 0 rfl) ?_
                        refine lv_iload hx hb dL_place_71 (lv_at hl 8 rfl) ?_
                        refine g_lald hx hb hE hG (k := 29) (by omega) rfl cN (rfl) (by omega) (by omega) dL_place_73 ?_
                        refine lv_lload hx hb dL_place_74 (lv_at hl 6 rfl) ?_
                        refine lv_land hx hb dL_place_76 ?_
                        refine lv_lconst (v := 0) hx hb dL_place_77 (by decide) ?_
                        refine W.lcmp hx hb dL_place_78 ?_
                        refine lv_if_ne (tgt := 86) hx hb dL_place_79 (by decide) (fun c79 => ?_) (fun c79 => ?_)
                        · skip
                          have c79 : ¬ (((J 29 cN) &&& (gBt ko wN (eN - 1))) = 0) := fun z9 => c79 ((lg_cmp_eq _ _).mpr z9)
                          refine lv_iconst (v := nI 0) hx hb dL_place_86 (by decide) ?_
                          exact LLq87 0 (by omega) (by first | exact ⟨fun h9 => absurd h9 (by decide), fun h9 => absurd h9.2 c79⟩ | exact ⟨fun h9 => absurd h9 (by decide), fun h9 => absurd h9.1 (by omega)⟩ | exact ⟨fun _ => ⟨by omega, c79⟩, fun _ => rfl⟩) _ _ _ hG (lv_sub hl [0, 1, 2, 3, 4, 5, 6, 7, 8] rfl)
                        · skip
                          have c79 : ((J 29 cN) &&& (gBt ko wN (eN - 1))) = 0 := (lg_cmp_eq _ _).mp c79
                          refine lv_iconst (v := nI 1) hx hb dL_place_82 (by decide) ?_
                          refine lv_goto (tgt := 87) hx hb dL_place_83 (by decide) ?_
                          exact LLq87 1 (by omega) (by first | exact ⟨fun h9 => absurd h9 (by decide), fun h9 => absurd h9.2 c79⟩ | exact ⟨fun h9 => absurd h9 (by decide), fun h9 => absurd h9.1 (by omega)⟩ | exact ⟨fun _ => ⟨by omega, c79⟩, fun _ => rfl⟩) _ _ _ hG (lv_sub hl [0, 1, 2, 3, 4, 5, 6, 7, 8] rfl)
                exact LLq59 _ 1 kp (by omega) (by refine ⟨by omega, by omega, ?_⟩; simp) (by refine ⟨fun _ r h1 h2 => ?_, fun _ => rfl⟩; exact (pl_0 hpN (by omega) h1 h2).elim) (Nat.lt_succ_self _) _ _ _ hG (lv_sub hl [3, 4, 5, 6, 7, 8, 2, 1, 0] rfl)
              refine lv_iload_n hx hb dL_place_35 rfl (lv_at hl 4 rfl) ?_
              refine lv_iconst (v := nI 2) hx hb dL_place_36 (by decide) ?_
              refine lv_icmp_ne (tgt := 48) hx hb dL_place_37 (by decide) (fun c37 => ?_) (fun c37 => ?_)
              · skip
                have c37 : ¬ (eN = 2) := fun z9 => c37 ((nI_eq (by omega) (by omega)).mpr z9)
                refine lv_lconst (v := 0) hx hb dL_place_48 (by decide) ?_
                exact LLq49 0 (by first | (unfold gBt; rw [if_neg (by omega)]; done) | (unfold gBt; rw [if_pos (by omega)]; exact Int64.or_zero)) _ _ _ hG (lv_sub hl [0, 1, 2, 3, 4, 5, 6] rfl)
              · skip
                have c37 : eN = 2 := (nI_eq (by omega) (by omega)).mp c37
                refine lv_lload hx hb dL_place_40 (lv_at hl 0 rfl) ?_
                refine lv_bipush (v := nI 24) hx hb dL_place_42 (by decide) ?_
                refine lv_lshl (v := gshl (gBt1 ko wN) (nI 24)) hx hb dL_place_44 rfl ?_
                refine lv_goto (tgt := 49) hx hb dL_place_45 (by decide) ?_
                exact LLq49 (gshl (gBt1 ko wN) (nI 24)) (by first | (unfold gBt; rw [if_neg (by omega)]; done) | (unfold gBt; rw [if_pos (by omega)]; exact Int64.or_zero)) _ _ _ hG (lv_sub hl [0, 1, 2, 3, 4, 5, 6] rfl)
        exact LLq12 _ 0 (by omega) hno (Nat.lt_succ_self _) _ _ _ hG (lv_sub hl [1, 2, 3, 4, 5, 0] rfl)
  exact LLq3 _ 0 (by omega) mNone_0 (Nat.lt_succ_self _) _ _ _ hG (lv_sub hl [1, 2, 3, 4, 0] rfl)

abbrev PL_reaches (ad : Nat → Nat) (A : Nat → Nat → Int32) (J : Nat → Nat → Int64) (G : Nat → Nat → Int) (fN tN : Nat) : Option Value → (Nat → Nat → Int32) → (Nat → Nat → Int64) → Prop := fun v_ A1 J1 => (v_ = some (.int (nI (tbN (mCTr G (om (fN : Int)) 8) tN))) ∧ A = A1 ∧ J = J1)
set_option maxHeartbeats 4000000 in
set_option maxRecDepth 100000 in
theorem cL_reachesC (l : Launch) (D : va_G) (cy : Nat → ClassId) (base : Nat) (ad : Nat → Nat) (n : Nat) (A : Nat → Nat → Int32) (J : Nat → Nat → Int64) (G : Nat → Nat → Int) (fN tN : Nat) (hdv : mDvOk G) (hd9 : ∀ k, k < 8 → A 32 k = nI (dN G k)) (hfN : isOp (fN : Int)) (htN : tN < 8) : gMet l yL_reaches wsL_reaches ({ frames := 0, cells := 0, slots := 0, locals := 0 } : Room) D cy base ad n A J [.ref (ad 32), .int (nI fN), .int (nI tN)] (PL_reaches ad A J G fN tN) := by
  refine g_ofW (cc := cL_reaches) (maxL := 8) (ret := (some .boolean)) (by decide) rfl (Nat.le_of_ble_eq_true rfl) ?_
  intro pM eM sM mM aM bM methM cM H locs ls hx hb hr hts hown hlocks hml hE hG hl
  have hl : lv_has ls 8 [(0, .ref (ad 32)), (1, .int (nI fN)), (2, .int (nI tN))] := hl
  have hom : om (fN : Int) < 256 := om_lt (by omega)
  have hR := fun r => mCTr_lt hdv hom r
  have LLq16 : ∀  (aq : Nat) (ha : aq = om (fN : Int)) (H : Heap) (locs : List Loc) (ls : Array Slot), gH D base sM ad (33 + 2 * n) (gw cy ad n A J) H locs → lv_has ls 8 [(0, .ref (ad 32)), (1, .int (nI fN)), (2, .int (nI tN))] → W pM l eM ({ frames := 0, cells := 0, slots := 0, locals := 0 } : Room) sM mM aM bM methM cM H locs (0) (0) (MQ bM (gPost D cy base ad n (PL_reaches ad A J G fN tN)) aM sM 0 0 (fun q => base ≤ q)) (F0 mM 16 ls [.int (nI aq)]) := by
    intro aq ha H locs ls hG hl
    subst ha
    refine lv_istore_n (lv' := [(3, .int (nI (om (fN : Int)))), (0, .ref (ad 32)), (1, .int (nI fN)), (2, .int (nI tN))]) hx hb dL_reaches_16 rfl hl (by decide) rfl (fun ls hl => ?_)
    refine lv_iconst (v := nI 0) hx hb dL_reaches_17 (by decide) ?_
    refine lv_istore (lv' := [(4, .int (nI 0)), (3, .int (nI (om (fN : Int)))), (0, .ref (ad 32)), (1, .int (nI fN)), (2, .int (nI tN))]) hx hb dL_reaches_18 hl (by decide) rfl (fun ls hl => ?_)
    have LLq20 : ∀ (fuel : Nat) (rq : Nat) (hrq : rq ≤ 8) (_ : (8 - rq) < fuel) (H : Heap) (locs : List Loc) (ls : Array Slot), gH D base sM ad (33 + 2 * n) (gw cy ad n A J) H locs → lv_has ls 8 [(0, .ref (ad 32)), (1, .int (nI fN)), (2, .int (nI tN)), (3, .int (nI (mCTr G (om (fN : Int)) rq))), (4, .int (nI rq))] → W pM l eM ({ frames := 0, cells := 0, slots := 0, locals := 0 } : Room) sM mM aM bM methM cM H locs (0) (0) (MQ bM (gPost D cy base ad n (PL_reaches ad A J G fN tN)) aM sM 0 0 (fun q => base ≤ q)) (F0 mM 20 ls []) := by
      intro fuel
      induction fuel with
      | zero => intro rq hrq hms H locs ls hG hl; exact absurd hms (Nat.not_lt_zero _)
      | succ fuel ihq20 =>
        intro rq hrq hms H locs ls hG hl
        refine lv_iload hx hb dL_reaches_20 (lv_at hl 4 rfl) ?_
        refine lv_bipush (v := nI 8) hx hb dL_reaches_22 (by decide) ?_
        refine lv_icmp_ge (tgt := 129) hx hb dL_reaches_24 (by decide) (fun c24 => ?_) (fun c24 => ?_)
        · skip
          have c24 : 8 ≤ rq := (nI_leI (by omega) (by omega)).mp c24
          refine lv_iload_n hx hb dL_reaches_129 rfl (lv_at hl 3 rfl) ?_
          refine lv_iload_n hx hb dL_reaches_130 rfl (lv_at hl 2 rfl) ?_
          refine lv_ishr hx hb dL_reaches_131 ?_
          refine lv_iconst (v := nI 1) hx hb dL_reaches_132 (by decide) ?_
          refine lv_iand hx hb dL_reaches_133 ?_
          refine g_top (y := nI (tbN (mCTr G (om (fN : Int)) rq) tN)) (z_tbN (by have := hR rq; omega) (by omega)) ?_
          refine lv_iconst (v := nI 1) hx hb dL_reaches_134 (by decide) ?_
          have htb := tbN_le (mCTr G (om (fN : Int)) rq) tN
          refine lv_icmp_ne (tgt := 142) hx hb dL_reaches_135 (by decide) (fun c135 => ?_) (fun c135 => ?_)
          · skip
            have c135 : ¬ ((tbN (mCTr G (om (fN : Int)) rq) tN) = 1) := fun z9 => c135 ((nI_eq (by omega) (by omega)).mpr z9)
            refine lv_iconst (v := nI 0) hx hb dL_reaches_142 (by decide) ?_
            exact g_zret hx hb hr hlocks hG rfl ⟨(ret_nn (by rw [show (8 : Nat) = rq from by omega]; have := tbN_le (mCTr G (om (fN : Int)) rq) tN; omega)), rfl, rfl⟩ dL_reaches_143
          · skip
            have c135 : (tbN (mCTr G (om (fN : Int)) rq) tN) = 1 := (nI_eq (by omega) (by omega)).mp c135
            refine lv_iconst (v := nI 1) hx hb dL_reaches_138 (by decide) ?_
            refine lv_goto (tgt := 143) hx hb dL_reaches_139 (by decide) ?_
            exact g_zret hx hb hr hlocks hG rfl ⟨(ret_nn (by rw [show (8 : Nat) = rq from by omega]; have := tbN_le (mCTr G (om (fN : Int)) rq) tN; omega)), rfl, rfl⟩ dL_reaches_143
        · skip
          have c24 : ¬ (8 ≤ rq) := fun z9 => c24 ((nI_leI (by omega) (by omega)).mpr z9)
          refine lv_iconst (v := nI 0) hx hb dL_reaches_27 (by decide) ?_
          refine lv_istore (lv' := [(5, .int (nI 0)), (0, .ref (ad 32)), (1, .int (nI fN)), (2, .int (nI tN)), (3, .int (nI (mCTr G (om (fN : Int)) rq))), (4, .int (nI rq))]) hx hb dL_reaches_28 hl (by decide) rfl (fun ls hl => ?_)
          have LLq30 : ∀ (fuel : Nat) (kq : Nat) (hk : kq ≤ 8) (_ : (8 - kq) < fuel) (H : Heap) (locs : List Loc) (ls : Array Slot), gH D base sM ad (33 + 2 * n) (gw cy ad n A J) H locs → lv_has ls 8 [(0, .ref (ad 32)), (1, .int (nI fN)), (2, .int (nI tN)), (3, .int (nI (mCTk G (mCTr G (om (fN : Int)) rq) kq))), (4, .int (nI rq)), (5, .int (nI kq))] → W pM l eM ({ frames := 0, cells := 0, slots := 0, locals := 0 } : Room) sM mM aM bM methM cM H locs (0) (0) (MQ bM (gPost D cy base ad n (PL_reaches ad A J G fN tN)) aM sM 0 0 (fun q => base ≤ q)) (F0 mM 30 ls []) := by
            intro fuel
            induction fuel with
            | zero => intro kq hk hms H locs ls hG hl; exact absurd hms (Nat.not_lt_zero _)
            | succ fuel ihq30 =>
              intro kq hk hms H locs ls hG hl
              have hk256 := mCTk_lt hdv (hR rq) kq
              have hdk := hdv kq
              have hdl := dN_lt hdv kq
              refine lv_iload hx hb dL_reaches_30 (lv_at hl 5 rfl) ?_
              refine lv_bipush (v := nI 8) hx hb dL_reaches_32 (by decide) ?_
              refine lv_icmp_ge (tgt := 123) hx hb dL_reaches_34 (by decide) (fun c34 => ?_) (fun c34 => ?_)
              · skip
                have c34 : 8 ≤ kq := (nI_leI (by omega) (by omega)).mp c34
                refine lv_iinc (v := nI (rq + 1)) (lv' := [(4, .int (nI (rq + 1))), (0, .ref (ad 32)), (1, .int (nI fN)), (2, .int (nI tN)), (3, .int (nI (mCTk G (mCTr G (om (fN : Int)) rq) kq))), (5, .int (nI kq))]) hx hb dL_reaches_123 hl (k := 4) rfl (by rw [show (Int32.ofInt 1 : Int32) = nI 1 from rfl, nI_add]) (by decide) rfl (fun ls hl => ?_)
                refine lv_goto (tgt := 20) hx hb dL_reaches_126 (by decide) ?_
                have hk8 : kq = 8 := by omega
                subst hk8
                exact ihq20 (rq + 1) (by omega) (by omega) _ _ _ hG (lv_sub hl [1, 2, 3, 4, 0] rfl)
              · skip
                have c34 : ¬ (8 ≤ kq) := fun z9 => c34 ((nI_leI (by omega) (by omega)).mpr z9)
                have LLq117 : ∀  (sq : Nat) (hs : sq = mCTk G (mCTr G (om (fN : Int)) rq) (kq + 1)) (H : Heap) (locs : List Loc) (ls : Array Slot), gH D base sM ad (33 + 2 * n) (gw cy ad n A J) H locs → lv_has ls 8 [(0, .ref (ad 32)), (1, .int (nI fN)), (2, .int (nI tN)), (3, .int (nI sq)), (4, .int (nI rq)), (5, .int (nI kq))] → W pM l eM ({ frames := 0, cells := 0, slots := 0, locals := 0 } : Room) sM mM aM bM methM cM H locs (0) (0) (MQ bM (gPost D cy base ad n (PL_reaches ad A J G fN tN)) aM sM 0 0 (fun q => base ≤ q)) (F0 mM 117 ls []) := by
                  intro sq hs H locs ls hG hl
                  refine lv_iinc (v := nI (kq + 1)) (lv' := [(5, .int (nI (kq + 1))), (0, .ref (ad 32)), (1, .int (nI fN)), (2, .int (nI tN)), (3, .int (nI sq)), (4, .int (nI rq))]) hx hb dL_reaches_117 hl (k := 5) rfl (by rw [show (Int32.ofInt 1 : Int32) = nI 1 from rfl, nI_add]) (by decide) rfl (fun ls hl => ?_)
                  refine lv_goto (tgt := 30) hx hb dL_reaches_120 (by decide) ?_
                  subst hs
                  exact ihq30 (kq + 1) (by omega) (by omega) _ _ _ hG (lv_sub hl [1, 2, 3, 4, 5, 0] rfl)
                refine lv_iload_n hx hb dL_reaches_37 rfl (lv_at hl 3 rfl) ?_
                refine lv_iload hx hb dL_reaches_38 (lv_at hl 5 rfl) ?_
                refine lv_ishr hx hb dL_reaches_40 ?_
                refine lv_iconst (v := nI 1) hx hb dL_reaches_41 (by decide) ?_
                refine lv_iand hx hb dL_reaches_42 ?_
                refine g_top (y := nI (tbN (mCTk G (mCTr G (om (fN : Int)) rq) kq) kq)) (z_tbN (by omega) (by omega)) ?_
                refine lv_iconst (v := nI 1) hx hb dL_reaches_43 (by decide) ?_
                have htb := tbN_le (mCTk G (mCTr G (om (fN : Int)) rq) kq) kq
                refine lv_icmp_ne (tgt := 117) hx hb dL_reaches_44 (by decide) (fun c44 => ?_) (fun c44 => ?_)
                · skip
                  have c44 : ¬ ((tbN (mCTk G (mCTr G (om (fN : Int)) rq) kq) kq) = 1) := fun z9 => c44 ((nI_eq (by omega) (by omega)).mpr z9)
                  have hs9 : (mCTk G (mCTr G (om (fN : Int)) rq) kq) = mCTk G (mCTr G (om (fN : Int)) rq) (kq + 1) := (if_neg (fun z9 => c44 (tbN_1.mpr z9.1))).symm
                  exact LLq117 (mCTk G (mCTr G (om (fN : Int)) rq) kq) hs9 _ _ _ hG (lv_sub hl [0, 1, 2, 3, 4, 5] rfl)
                · skip
                  have c44 : (tbN (mCTk G (mCTr G (om (fN : Int)) rq) kq) kq) = 1 := (nI_eq (by omega) (by omega)).mp c44
                  have ht9 := tbN_1.mp c44
                  refine lv_aload_n hx hb dL_reaches_47 rfl (lv_at hl 0 rfl) ?_
                  refine lv_iload hx hb dL_reaches_48 (lv_at hl 5 rfl) ?_
                  refine g_iald hx hb hE hG (k := 32) (by omega) rfl kq (rfl) (by omega) (by omega) dL_reaches_50 ?_
                  refine g_top (y := nI (dN G kq)) (hd9 kq (by omega)) ?_
                  refine lv_if_eq (tgt := 117) hx hb dL_reaches_51 (by decide) (fun c51 => ?_) (fun c51 => ?_)
                  · skip
                    have c51 : (nI (dN G kq)) = nI 0 := c51
                    have c51 : (dN G kq) = 0 := (nI_eq (by omega) (by omega)).mp c51
                    have hs9 : (mCTk G (mCTr G (om (fN : Int)) rq) kq) = mCTk G (mCTr G (om (fN : Int)) rq) (kq + 1) := (if_neg (fun z9 => z9.2 ((dN_0 hdv kq).mp c51))).symm
                    exact LLq117 (mCTk G (mCTr G (om (fN : Int)) rq) kq) hs9 _ _ _ hG (lv_sub hl [0, 1, 2, 3, 4, 5] rfl)
                  · skip
                    have c51 : ¬ ((nI (dN G kq)) = nI 0) := c51
                    have c51 : ¬ ((dN G kq) = 0) := fun z9 => c51 ((nI_eq (by omega) (by omega)).mpr z9)
                    have hk9 : G 43 kq ≠ -1 := fun z9 => c51 ((dN_0 hdv kq).mpr z9)
                    refine lv_aload_n hx hb dL_reaches_54 rfl (lv_at hl 0 rfl) ?_
                    refine lv_iload hx hb dL_reaches_55 (lv_at hl 5 rfl) ?_
                    refine g_iald hx hb hE hG (k := 32) (by omega) rfl kq (rfl) (by omega) (by omega) dL_reaches_57 ?_
                    refine g_top (y := nI (dN G kq)) (hd9 kq (by omega)) ?_
                    refine lv_bipush (v := nI 10) hx hb dL_reaches_58 (by decide) ?_
                    refine lv_ishr hx hb dL_reaches_60 ?_
                    refine g_top (y := nI (dN G kq / 1024)) (dN_sh hdv kq) ?_
                    refine lv_sipush (v := nI 1023) hx hb dL_reaches_61 (by decide) ?_
                    refine lv_iand hx hb dL_reaches_64 ?_
                    refine g_top (y := nI ((G 44 kq).toNat)) (dN_one hdv hk9) ?_
                    refine lv_istore (lv' := [(6, .int (nI ((G 44 kq).toNat))), (0, .ref (ad 32)), (1, .int (nI fN)), (2, .int (nI tN)), (3, .int (nI (mCTk G (mCTr G (om (fN : Int)) rq) kq))), (4, .int (nI rq)), (5, .int (nI kq))]) hx hb dL_reaches_65 hl (by decide) rfl (fun ls hl => ?_)
                    refine lv_aload_n hx hb dL_reaches_67 rfl (lv_at hl 1 rfl) ?_
                    refine lv_iload hx hb dL_reaches_68 (lv_at hl 6 rfl) ?_
                    refine g_iald hx hb hE hG (k := 32) (by omega) rfl kq (rfl) (by omega) (by omega) dL_reaches_70 ?_
                    refine g_top (y := nI (dN G kq)) (hd9 kq (by omega)) ?_
                    refine lv_sipush (v := nI 1023) hx hb dL_reaches_71 (by decide) ?_
                    refine lv_iand hx hb dL_reaches_74 ?_
                    refine g_top (y := nI ((G 45 kq).toNat)) (dN_other hdv hk9) ?_
                    refine lv_istore (lv' := [(7, .int (nI ((G 45 kq).toNat))), (6, .int (nI ((G 44 kq).toNat))), (0, .ref (ad 32)), (1, .int (nI fN)), (2, .int (nI tN)), (3, .int (nI (mCTk G (mCTr G (om (fN : Int)) rq) kq))), (4, .int (nI rq)), (5, .int (nI kq))]) hx hb dL_reaches_75 hl (by decide) rfl (fun ls hl => ?_)
                    refine lv_iload_n hx hb dL_reaches_77 rfl (lv_at hl 5 rfl) ?_
                    have LLq96 : ∀  (aq : Nat) (ha : aq = om (G 44 kq)) (H : Heap) (locs : List Loc) (ls : Array Slot), gH D base sM ad (33 + 2 * n) (gw cy ad n A J) H locs → lv_has ls 8 [(7, .int (nI ((G 45 kq).toNat))), (6, .int (nI ((G 44 kq).toNat))), (0, .ref (ad 32)), (1, .int (nI fN)), (2, .int (nI tN)), (3, .int (nI (mCTk G (mCTr G (om (fN : Int)) rq) kq))), (4, .int (nI rq)), (5, .int (nI kq))] → W pM l eM ({ frames := 0, cells := 0, slots := 0, locals := 0 } : Room) sM mM aM bM methM cM H locs (0) (0) (MQ bM (gPost D cy base ad n (PL_reaches ad A J G fN tN)) aM sM 0 0 (fun q => base ≤ q)) (F0 mM 96 ls [.int (nI aq), .int (nI (mCTk G (mCTr G (om (fN : Int)) rq) kq))]) := by
                      intro aq ha H locs ls hG hl
                      have LLq114 : ∀  (bq : Nat) (hb2 : bq = om (G 45 kq)) (H : Heap) (locs : List Loc) (ls : Array Slot), gH D base sM ad (33 + 2 * n) (gw cy ad n A J) H locs → lv_has ls 8 [(7, .int (nI ((G 45 kq).toNat))), (6, .int (nI ((G 44 kq).toNat))), (0, .ref (ad 32)), (1, .int (nI fN)), (2, .int (nI tN)), (3, .int (nI (mCTk G (mCTr G (om (fN : Int)) rq) kq))), (4, .int (nI rq)), (5, .int (nI kq))] → W pM l eM ({ frames := 0, cells := 0, slots := 0, locals := 0 } : Room) sM mM aM bM methM cM H locs (0) (0) (MQ bM (gPost D cy base ad n (PL_reaches ad A J G fN tN)) aM sM 0 0 (fun q => base ≤ q)) (F0 mM 114 ls [.int (nI bq), .int (nI aq), .int (nI (mCTk G (mCTr G (om (fN : Int)) rq) kq))]) := by
                        intro bq hb2 H locs ls hG hl
                        have ha9 : aq < 256 := by rw [ha]; exact om_lt (by omega)
                        have hb9 : bq < 256 := by rw [hb2]; exact om_lt (by omega)
                        have hab := or_256 ha9 hb9
                        have hs9 : (mCTk G (mCTr G (om (fN : Int)) rq) kq) ||| (aq ||| bq) = mCTk G (mCTr G (om (fN : Int)) rq) (kq + 1) := by rw [ha, hb2, ← Nat.or_assoc]; exact (if_pos ⟨ht9, hk9⟩).symm
                        refine lv_ior hx hb dL_reaches_114 ?_
                        refine g_top (y := nI (aq ||| bq)) (nI_or (by omega) (by omega)) ?_
                        refine lv_ior hx hb dL_reaches_115 ?_
                        refine g_top (y := nI ((mCTk G (mCTr G (om (fN : Int)) rq) kq) ||| (aq ||| bq))) (nI_or (by omega) (by omega)) ?_
                        refine lv_istore_n (lv' := [(3, .int (nI ((mCTk G (mCTr G (om (fN : Int)) rq) kq) ||| (aq ||| bq)))), (7, .int (nI ((G 45 kq).toNat))), (6, .int (nI ((G 44 kq).toNat))), (0, .ref (ad 32)), (1, .int (nI fN)), (2, .int (nI tN)), (4, .int (nI rq)), (5, .int (nI kq))]) hx hb dL_reaches_116 rfl hl (by decide) rfl (fun ls hl => ?_)
                        exact LLq117 ((mCTk G (mCTr G (om (fN : Int)) rq) kq) ||| (aq ||| bq)) hs9 _ _ _ hG (lv_sub hl [3, 4, 5, 0, 6, 7] rfl)
                      refine lv_iload hx hb dL_reaches_96 (lv_at hl 0 rfl) ?_
                      refine lv_bipush (v := nI 100) hx hb dL_reaches_98 (by decide) ?_
                      refine lv_icmp_lt (tgt := 113) hx hb dL_reaches_100 (by decide) (fun c100 => ?_) (fun c100 => ?_)
                      · skip
                        have c100 : ((G 45 kq).toNat) < 100 := (nI_ltI (by omega) (by omega)).mp c100
                        refine lv_iconst (v := nI 0) hx hb dL_reaches_113 (by decide) ?_
                        exact LLq114 0 (by first | (rw [Int.toNat_of_nonneg (by omega)]; done) | exact (om_0 (by omega)).symm) _ _ _ hG (lv_sub hl [0, 1, 2, 3, 4, 5, 6, 7] rfl)
                      · skip
                        have c100 : ¬ (((G 45 kq).toNat) < 100) := fun z9 => c100 ((nI_ltI (by omega) (by omega)).mpr z9)
                        refine lv_iconst (v := nI 1) hx hb dL_reaches_103 (by decide) ?_
                        refine lv_iload hx hb dL_reaches_104 (lv_at hl 0 rfl) ?_
                        refine lv_bipush (v := nI 100) hx hb dL_reaches_106 (by decide) ?_
                        refine lv_isub hx hb dL_reaches_108 ?_
                        refine g_top (y := nI (((G 45 kq).toNat) - 100)) (pk_sub (by omega)) ?_
                        refine lv_ishl hx hb dL_reaches_109 ?_
                        refine g_top (y := nI (om ((G 45 kq).toNat : Int))) (shl_omn (by omega) (by omega)) ?_
                        refine lv_goto (tgt := 114) hx hb dL_reaches_110 (by decide) ?_
                        exact LLq114 (om ((G 45 kq).toNat : Int)) (by first | (rw [Int.toNat_of_nonneg (by omega)]; done) | exact (om_0 (by omega)).symm) _ _ _ hG (lv_sub hl [0, 1, 2, 3, 4, 5, 6, 7] rfl)
                    refine lv_iload hx hb dL_reaches_78 (lv_at hl 1 rfl) ?_
                    refine lv_bipush (v := nI 100) hx hb dL_reaches_80 (by decide) ?_
                    refine lv_icmp_lt (tgt := 95) hx hb dL_reaches_82 (by decide) (fun c82 => ?_) (fun c82 => ?_)
                    · skip
                      have c82 : ((G 44 kq).toNat) < 100 := (nI_ltI (by omega) (by omega)).mp c82
                      refine lv_iconst (v := nI 0) hx hb dL_reaches_95 (by decide) ?_
                      exact LLq96 0 (by first | (rw [Int.toNat_of_nonneg (by omega)]; done) | exact (om_0 (by omega)).symm) _ _ _ hG (lv_sub hl [0, 1, 2, 3, 4, 5, 6, 7] rfl)
                    · skip
                      have c82 : ¬ (((G 44 kq).toNat) < 100) := fun z9 => c82 ((nI_ltI (by omega) (by omega)).mpr z9)
                      refine lv_iconst (v := nI 1) hx hb dL_reaches_85 (by decide) ?_
                      refine lv_iload hx hb dL_reaches_86 (lv_at hl 1 rfl) ?_
                      refine lv_bipush (v := nI 100) hx hb dL_reaches_88 (by decide) ?_
                      refine lv_isub hx hb dL_reaches_90 ?_
                      refine g_top (y := nI (((G 44 kq).toNat) - 100)) (pk_sub (by omega)) ?_
                      refine lv_ishl hx hb dL_reaches_91 ?_
                      refine g_top (y := nI (om ((G 44 kq).toNat : Int))) (shl_omn (by omega) (by omega)) ?_
                      refine lv_goto (tgt := 96) hx hb dL_reaches_92 (by decide) ?_
                      exact LLq96 (om ((G 44 kq).toNat : Int)) (by first | (rw [Int.toNat_of_nonneg (by omega)]; done) | exact (om_0 (by omega)).symm) _ _ _ hG (lv_sub hl [0, 1, 2, 3, 4, 5, 6, 7] rfl)
          exact LLq30 _ 0 (by omega) (Nat.lt_succ_self _) _ _ _ hG (lv_sub hl [1, 2, 3, 4, 5, 0] rfl)
    exact LLq20 _ 0 (by omega) (Nat.lt_succ_self _) _ _ _ hG (lv_sub hl [2, 3, 4, 1, 0] rfl)
  refine lv_iload_n hx hb dL_reaches_0 rfl (lv_at hl 1 rfl) ?_
  refine lv_bipush (v := nI 100) hx hb dL_reaches_1 (by decide) ?_
  refine lv_icmp_lt (tgt := 15) hx hb dL_reaches_3 (by decide) (fun c3 => ?_) (fun c3 => ?_)
  · skip
    have c3 : fN < 100 := (nI_ltI (by omega) (by omega)).mp c3
    refine lv_iconst (v := nI 0) hx hb dL_reaches_15 (by decide) ?_
    exact LLq16 0 (by first | rfl | exact (om_n (by omega)).symm) _ _ _ hG (lv_sub hl [0, 1, 2] rfl)
  · skip
    have c3 : ¬ (fN < 100) := fun z9 => c3 ((nI_ltI (by omega) (by omega)).mpr z9)
    refine lv_iconst (v := nI 1) hx hb dL_reaches_6 (by decide) ?_
    refine lv_iload_n hx hb dL_reaches_7 rfl (lv_at hl 1 rfl) ?_
    refine lv_bipush (v := nI 100) hx hb dL_reaches_8 (by decide) ?_
    refine lv_isub hx hb dL_reaches_10 ?_
    refine g_top (y := nI (fN - 100)) (pk_sub (by omega)) ?_
    refine lv_ishl hx hb dL_reaches_11 ?_
    refine g_top (y := nI (om (fN : Int))) (shl_omn (by omega) (by omega)) ?_
    refine lv_goto (tgt := 16) hx hb dL_reaches_12 (by decide) ?_
    exact LLq16 (om (fN : Int)) (by first | rfl | exact (om_n (by omega)).symm) _ _ _ hG (lv_sub hl [0, 1, 2] rfl)
