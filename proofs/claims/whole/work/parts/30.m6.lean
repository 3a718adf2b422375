abbrev PX10_send (ad : Nat → Nat) (A : Nat → Nat → Int32) (J : Nat → Nat → Int64) (G : Nat → Nat → Int) (x : Int32) : Option Value → (Nat → Nat → Int32) → (Nat → Nat → Int64) → Prop := fun v_ A1 J1 => (v_ = some (.int (nI 0)) ∧ gu A 28 34 (nI 1) = A1 ∧ J = J1 ∧ (¬ (1 ≤ x.toInt ∧ x.toInt ≤ 64))) ∨ (v_ = some (.int (nI 0)) ∧ gu A 28 34 (nI 2) = A1 ∧ J = J1 ∧ (1 ≤ x.toInt ∧ x.toInt ≤ 64) ∧ (1000 < G 28 9 + x.toInt)) ∨ (∃ (jq : Nat), v_ = some (.int (zI (G 28 10 + 8 * ((jq : Nat) : Int)))) ∧ J = J1 ∧ (x = nI jq) ∧ (1 ≤ jq ∧ jq ≤ 64) ∧ (G 28 9 + ((jq : Nat) : Int) ≤ 1000) ∧ (MRep A1 (mSend G jq)) ∧ (MOnly A A1) ∧ (A1 28 34 = nI 0))
set_option maxHeartbeats 4000000 in
set_option maxRecDepth 100000 in
theorem cX10_sendC (l : Launch) (D : va_G) (cy : Nat → ClassId) (base : Nat) (ad : Nat → Nat) (n : Nat) (A : Nat → Nat → Int32) (J : Nat → Nat → Int64) (G : Nat → Nat → Int) (x : Int32) (hM : MRep A G) (hT : TsOk G) (hw : 0 ≤ G 28 9 ∧ G 28 9 ≤ 1000) (hol : 0 ≤ G 28 10 ∧ G 28 10 ≤ 8 * G 28 9) (hpr : mPres G) (hsn : mSndOk G) : gMet l yX10_send wsX10_send ({ frames := 3, cells := 0, slots := 0, locals := 74 } : Room) D cy base ad n A J [.ref (ad 28), .int x] (PX10_send ad A J G x) := by
  refine g_ofW (cc := cX10_send) (maxL := 3) (ret := (some .int)) (by decide) rfl (Nat.le_of_ble_eq_true rfl) ?_
  intro pM eM sM mM aM bM methM cM H locs ls hx hb hr hts hown hlocks hml hE hG hl
  have hl : lv_has ls 3 [(0, .ref (ad 28)), (1, .int x)] := hl
  have hinX10 : ∀ w ∈ u_ws RX10 TX10 35, w ∈ wsX10_send := by decide +kernel
  refine lv_aload_n hx hb dX10_send_0 rfl (lv_at hl 0 rfl) ?_
  refine lv_iload_n hx hb dX10_send_1 rfl (lv_at hl 1 rfl) ?_
  refine lv_iconst (v := nI 1) hx hb dX10_send_2 (by decide) ?_
  refine lv_bipush (v := nI 64) hx hb dX10_send_3 (by decide) ?_
  refine g_callS (As := [.int x, .int (nI 1), .int (nI 64)]) (rest := [.ref (ad 28)]) ⟨hx, hb, hml, hown, hts⟩ hE hG (cX10_isInC l D cy base ad n A J x 1 64 (by first | assumption | omega) (by first | assumption | omega) (by first | assumption | omega) (by first | assumption | omega)) (va_cwS 3 hts gX10_send_X10_isIn rfl rfl rfl (by decide +kernel) ⟨Nat.le_of_ble_eq_true rfl, Nat.le_of_ble_eq_true rfl⟩) rfl hl.1 rfl (Nat.le_of_ble_eq_true rfl) dX10_send_5 ⟨Nat.zero_le _, Nat.zero_le _⟩ (fun v_ A5 J5 H locs hp hG => ?_)
  rcases hp with ⟨rfl, rfl, rfl, hC_5⟩ | ⟨rfl, rfl, rfl, hC_5⟩
  · refine W.eq (g2 := F0 mM 8 ls [.int (nI 1), .ref (ad 28)]) rfl ?_
    refine lv_if_ne (tgt := 15) hx hb dX10_send_8 (by decide) (fun c8 => ?_) (fun c8 => ?_)
    · skip
      refine lv_aload_n hx hb dX10_send_15 rfl (lv_at hl 0 rfl) ?_
      refine g_get (C := RX10) (T := TX10) (NN := 35) (ci := 10) hx hb hts hinX10 hown hE hG (k := 28) (by omega) rfl rfl 9 (by decide) (hts (.fieldLink RX10 104 "CommutatorModel" "words" "I") (List.mem_of_getElem? (i := 1) rfl)) rfl (v := .int (A 28 9)) rfl dX10_send_16 ?_
      refine g_top (y := zI (G 28 9)) (hM 28 9 (by omega) (by omega) (by omega)) ?_
      refine lv_iload_n hx hb dX10_send_19 rfl (lv_at hl 1 rfl) ?_
      refine lv_iadd hx hb dX10_send_20 ?_
      refine g_top (y := zI (G 28 9 + x.toInt)) (by rw [← zI_of x, zI_add, zI_toInt (by omega) (by omega)]) ?_
      refine lv_sipush (v := nI 1000) hx hb dX10_send_21 (by decide) ?_
      refine lv_icmp_le (tgt := 31) hx hb dX10_send_24 (by decide) (fun c24 => ?_) (fun c24 => ?_)
      · skip
        have c24 : (G 28 9 + x.toInt) ≤ ((1000 : Nat) : Int) := (cmp_le (zI_toInt (by omega) (by omega)) (nI_toInt (by omega))).mp c24
        refine lv_iconst (v := nI 0) hx hb dX10_send_31 (by decide) ?_
        refine g_callV (As := [.int (nI 0)]) (rest := []) (r := (RX10, TX10, 35)) ⟨hx, hb, hml, hown, hts⟩ hE hG (cX10_canC l D cy base ad n A J 0 (by first | assumption | omega)) (cwV 1 hts gX10_send_X10_can rfl rfl rfl (by decide +kernel) ⟨Nat.le_of_ble_eq_true rfl, Nat.le_of_ble_eq_true rfl⟩) (by omega) rfl rfl rfl hl.1 rfl (Nat.le_of_ble_eq_true rfl) dX10_send_32 ⟨Nat.zero_le _, Nat.zero_le _⟩ (fun v_ A32 J32 H locs hp hG => ?_)
        rcases hp with ⟨rfl, rfl, rfl, hC_32⟩ | ⟨rfl, rfl, rfl, hC_32⟩
        · refine W.eq (g2 := F0 mM 35 ls [.int (nI 1)]) rfl ?_
          refine lv_if_ne (tgt := 40) hx hb dX10_send_35 (by decide) (fun c35 => ?_) (fun c35 => ?_)
          · skip
            obtain ⟨jq, hjq, rfl⟩ := z_nat (x := x) (by omega)
            have hjqt : (nI jq).toInt = (jq : Int) := nI_toInt hjq
            refine lv_iconst (v := nI 0) hx hb dX10_send_40 (by decide) ?_
            refine lv_istore_n (lv' := [(2, .int (nI 0)), (0, .ref (ad 28)), (1, .int (nI jq))]) hx hb dX10_send_41 rfl hl (by decide) rfl (fun ls hl => ?_)
            have LLq42 : ∀ (fuel : Nat) (kq : Nat) (Aq : Nat → Nat → Int32) (hk : kq ≤ jq) (hR : MRep Aq (mSend G kq)) (hO : MOnly A Aq) (hth : Aq 28 34 = nI 0) (_ : (jq - kq) < fuel) (H : Heap) (locs : List Loc) (ls : Array Slot), gH D base sM ad (50 + 2 * n) (gw cy ad n Aq J) H locs → lv_has ls 3 [(0, .ref (ad 28)), (1, .int (nI jq)), (2, .int (nI kq))] → W pM l eM ({ frames := 3, cells := 0, slots := 0, locals := 74 } : Room) sM mM aM bM methM cM H locs 0 0 (MQ bM (gPost D cy base ad n (PX10_send ad A J G (nI jq))) aM sM 0 0 (fun q => base ≤ q)) (F0 mM 42 ls []) := by
              intro fuel
              induction fuel with
              | zero => intro kq Aq hk hR hO hth hms H locs ls hG hl; exact absurd hms (Nat.not_lt_zero _)
              | succ fuel ihq42 =>
                intro kq Aq hk hR hO hth hms H locs ls hG hl
                refine lv_iload_n hx hb dX10_send_42 rfl (lv_at hl 2 rfl) ?_
                refine lv_iload_n hx hb dX10_send_43 rfl (lv_at hl 1 rfl) ?_
                refine lv_icmp_ge (tgt := 57) hx hb dX10_send_44 (by decide) (fun c44 => ?_) (fun c44 => ?_)
                · skip
                  have c44 : jq ≤ kq := (nI_leI (by omega) (by omega)).mp c44
                  have hk9 : kq = jq := by omega
                  subst hk9
                  have hsk := mSend_ok hT hpr hsn kq
                  refine lv_aload_n hx hb dX10_send_57 rfl (lv_at hl 0 rfl) ?_
                  refine g_get (C := RX10) (T := TX10) (NN := 35) (ci := 10) hx hb hts hinX10 hown hE hG (k := 28) (by omega) rfl rfl 10 (by decide) (hts (.fieldLink RX10 117 "CommutatorModel" "onLine" "I") (List.mem_of_getElem? (i := 2) rfl)) rfl (v := .int (Aq 28 10)) rfl dX10_send_58 ?_
                  refine g_top (y := zI (G 28 10 + 8 * ((kq : Nat) : Int))) ((hR 28 10 (by omega) (by omega) (by omega)).trans (congrArg zI hsk.2.2.2.2)) ?_
                  exact g_iret hx hb hr hlocks hG (Or.inr (Or.inr ⟨kq, rfl, rfl, rfl, by omega, by omega, hR, hO, hth⟩)) dX10_send_61
                · skip
                  have c44 : ¬ (jq ≤ kq) := fun z9 => c44 ((nI_leI (by omega) (by omega)).mpr z9)
                  have hsk := mSend_ok hT hpr hsn kq
                  refine lv_aload_n hx hb dX10_send_47 rfl (lv_at hl 0 rfl) ?_
                  refine g_callV (As := []) (rest := []) (r := (RX10, TX10, 35)) ⟨hx, hb, hml, hown, hts⟩ hE hG (cX10_sendWordC l D cy base ad n Aq J (mSend G kq) hR hsk.1 (by have h9 := hsk.2.2.2.1; omega) (by have h9 := hsk.2.2.2.2; omega) hsk.2.1 hsk.2.2.1) (cwV 0 hts gX10_send_X10_sendWord rfl rfl rfl (by decide +kernel) ⟨Nat.le_of_ble_eq_true rfl, Nat.le_of_ble_eq_true rfl⟩) (by omega) rfl rfl rfl hl.1 rfl (Nat.le_of_ble_eq_true rfl) dX10_send_48 ⟨Nat.zero_le _, Nat.zero_le _⟩ (fun v_ A48 J48 H locs hp hG => ?_)
                  obtain ⟨rfl, rfl, hR_48, hO_48, hth_48⟩ := hp
                  refine W.eq (g2 := F0 mM 51 ls []) rfl ?_
                  refine lv_iinc (v := nI (kq + 1)) (lv' := [(2, .int (nI (kq + 1))), (0, .ref (ad 28)), (1, .int (nI jq))]) hx hb dX10_send_51 hl (k := 2) rfl (by rw [show (Int32.ofInt 1 : Int32) = nI 1 from rfl, nI_add]) (by decide) rfl (fun ls hl => ?_)
                  refine lv_goto (tgt := 42) hx hb dX10_send_54 (by decide) ?_
                  exact ihq42 (kq + 1) A48 (by omega) hR_48 (hO.trans hO_48) (hth_48.trans hth) (by omega) _ _ _ hG (lv_sub hl [1, 2, 0] rfl)
            exact LLq42 _ 0 (gu A 28 34 (nI 0)) (by omega) (hM.th _) (MOnly.rf.up _ _ (by decide) (by decide)) rfl (Nat.lt_succ_self _) _ _ _ hG (lv_sub hl [1, 2, 0] rfl)
          · skip
            exact absurd c35 (by decide)
        · exact absurd hC_32 (by decide)
      · skip
        have c24 : ¬ ((G 28 9 + x.toInt) ≤ ((1000 : Nat) : Int)) := fun z9 => c24 ((cmp_le (zI_toInt (by omega) (by omega)) (nI_toInt (by omega))).mpr z9)
        refine lv_iconst (v := nI 2) hx hb dX10_send_27 (by decide) ?_
        refine lv_goto (tgt := 32) hx hb dX10_send_28 (by decide) ?_
        refine g_callV (As := [.int (nI 2)]) (rest := []) (r := (RX10, TX10, 35)) ⟨hx, hb, hml, hown, hts⟩ hE hG (cX10_canC l D cy base ad n A J 2 (by first | assumption | omega)) (cwV 1 hts gX10_send_X10_can rfl rfl rfl (by decide +kernel) ⟨Nat.le_of_ble_eq_true rfl, Nat.le_of_ble_eq_true rfl⟩) (by omega) rfl rfl rfl hl.1 rfl (Nat.le_of_ble_eq_true rfl) dX10_send_32 ⟨Nat.zero_le _, Nat.zero_le _⟩ (fun v_ A32 J32 H locs hp hG => ?_)
        rcases hp with ⟨rfl, rfl, rfl, hC_32⟩ | ⟨rfl, rfl, rfl, hC_32⟩
        · exact absurd hC_32 (by decide)
        · refine W.eq (g2 := F0 mM 35 ls [.int (nI 0)]) rfl ?_
          refine lv_if_ne (tgt := 40) hx hb dX10_send_35 (by decide) (fun c35 => ?_) (fun c35 => ?_)
          · skip
            exact absurd c35 (by decide)
          · skip
            refine lv_iconst (v := nI 0) hx hb dX10_send_38 (by decide) ?_
            exact g_iret hx hb hr hlocks hG (by first | exact Or.inl ⟨rfl, rfl, rfl, (by first | omega | rfl | assumption)⟩ | exact Or.inr (Or.inl ⟨rfl, rfl, rfl, (by first | omega | rfl | assumption), (by first | omega | rfl | assumption)⟩) | exact Or.inr (Or.inr (⟨_, rfl, rfl, (by first | omega | rfl | assumption), (by first | omega | rfl | assumption), (by first | omega | rfl | assumption), (by first | omega | rfl | assumption), (by first | omega | rfl | assumption), (by first | omega | rfl | assumption)⟩))) dX10_send_39
    · skip
      exact absurd c8 (by decide)
  · refine W.eq (g2 := F0 mM 8 ls [.int (nI 0), .ref (ad 28)]) rfl ?_
    refine lv_if_ne (tgt := 15) hx hb dX10_send_8 (by decide) (fun c8 => ?_) (fun c8 => ?_)
    · skip
      exact absurd c8 (by decide)
    · skip
      refine lv_iconst (v := nI 1) hx hb dX10_send_11 (by decide) ?_
      refine lv_goto (tgt := 32) hx hb dX10_send_12 (by decide) ?_
      refine g_callV (As := [.int (nI 1)]) (rest := []) (r := (RX10, TX10, 35)) ⟨hx, hb, hml, hown, hts⟩ hE hG (cX10_canC l D cy base ad n A J 1 (by first | assumption | omega)) (cwV 1 hts gX10_send_X10_can rfl rfl rfl (by decide +kernel) ⟨Nat.le_of_ble_eq_true rfl, Nat.le_of_ble_eq_true rfl⟩) (by omega) rfl rfl rfl hl.1 rfl (Nat.le_of_ble_eq_true rfl) dX10_send_32 ⟨Nat.zero_le _, Nat.zero_le _⟩ (fun v_ A32 J32 H locs hp hG => ?_)
      rcases hp with ⟨rfl, rfl, rfl, hC_32⟩ | ⟨rfl, rfl, rfl, hC_32⟩
      · exact absurd hC_32 (by decide)
      · refine W.eq (g2 := F0 mM 35 ls [.int (nI 0)]) rfl ?_
        refine lv_if_ne (tgt := 40) hx hb dX10_send_35 (by decide) (fun c35 => ?_) (fun c35 => ?_)
        · skip
          exact absurd c35 (by decide)
        · skip
          refine lv_iconst (v := nI 0) hx hb dX10_send_38 (by decide) ?_
          exact g_iret hx hb hr hlocks hG (by first | exact Or.inl ⟨rfl, rfl, rfl, (by first | omega | rfl | assumption)⟩ | exact Or.inr (Or.inl ⟨rfl, rfl, rfl, (by first | omega | rfl | assumption), (by first | omega | rfl | assumption)⟩) | exact Or.inr (Or.inr (⟨_, rfl, rfl, (by first | omega | rfl | assumption), (by first | omega | rfl | assumption), (by first | omega | rfl | assumption), (by first | omega | rfl | assumption), (by first | omega | rfl | assumption), (by first | omega | rfl | assumption)⟩))) dX10_send_39

abbrev PX10_compares (ad : Nat → Nat) (A : Nat → Nat → Int32) (J : Nat → Nat → Int64) (G : Nat → Nat → Int) : Option Value → (Nat → Nat → Int32) → (Nat → Nat → Int64) → Prop := fun v_ A1 J1 => (v_ = none ∧ J = J1 ∧ (MRep A1 (mCmp G)) ∧ (MOnly A A1) ∧ (A1 28 34 = A 28 34))
set_option maxHeartbeats 4000000 in
set_option maxRecDepth 100000 in
theorem cX10_comparesC (l : Launch) (D : va_G) (cy : Nat → ClassId) (base : Nat) (ad : Nat → Nat) (n : Nat) (A : Nat → Nat → Int32) (J : Nat → Nat → Int64) (G : Nat → Nat → Int) (hM : MRep A G) (hp : mPast G) (hb : 0 ≤ G 28 15 ∧ G 28 15 + 8 ≤ 8000) (hs : G 28 14 = 1 ∨ G 28 14 = 2) (hmt : 0 ≤ G 28 16 ∧ G 28 16 < 10000) (hms : 0 ≤ G 28 17 ∧ G 28 17 < 10000) : gMet l yX10_compares wsX10_compares ({ frames := 0, cells := 0, slots := 0, locals := 0 } : Room) D cy base ad n A J [.ref (ad 28)] (PX10_compares ad A J G) := by
  refine g_ofW (cc := cX10_compares) (maxL := 3) (ret := none) (by decide) rfl (Nat.le_of_ble_eq_true rfl) ?_
  intro pM eM sM mM aM bM methM cM H locs ls hx hb hr hts hown hlocks hml hE hG hl
  have hl : lv_has ls 3 [(0, .ref (ad 28))] := hl
  have hinX10 : ∀ w ∈ u_ws RX10 TX10 35, w ∈ wsX10_compares := by decide +kernel
  have hmw := mWrong_range G
  refine lv_iconst (v := nI 0) hx hb dX10_compares_0 (by decide) ?_
  refine lv_istore_n (lv' := [(1, .int (nI 0)), (0, .ref (ad 28))]) hx hb dX10_compares_1 rfl hl (by decide) rfl (fun ls hl => ?_)
  refine lv_iconst (v := nI 0) hx hb dX10_compares_2 (by decide) ?_
  refine lv_istore_n (lv' := [(2, .int (nI 0)), (1, .int (nI 0)), (0, .ref (ad 28))]) hx hb dX10_compares_3 rfl hl (by decide) rfl (fun ls hl => ?_)
  have LLq4 : ∀ (fuel : Nat) (kq : Nat) (hk : kq ≤ 8) (_ : (8 - kq) < fuel) (H : Heap) (locs : List Loc) (ls : Array Slot), gH D base sM ad (50 + 2 * n) (gw cy ad n A J) H locs → lv_has ls 3 [(0, .ref (ad 28)), (1, .int (zI (mWrong G kq))), (2, .int (nI kq))] → W pM l eM ({ frames := 0, cells := 0, slots := 0, locals := 0 } : Room) sM mM aM bM methM cM H locs 0 0 (MQ bM (gPost D cy base ad n (PX10_compares ad A J G)) aM sM 0 0 (fun q => base ≤ q)) (F0 mM 4 ls []) := by
    intro fuel
    induction fuel with
    | zero => intro kq hk hms H locs ls hG hl; exact absurd hms (Nat.not_lt_zero _)
    | succ fuel ihq4 =>
      intro kq hk hms H locs ls hG hl
      refine lv_iload_n hx hb dX10_compares_4 rfl (lv_at hl 2 rfl) ?_
      refine lv_bipush (v := nI 8) hx hb dX10_compares_5 (by decide) ?_
      refine lv_icmp_ge (tgt := 48) hx hb dX10_compares_7 (by decide) (fun c7 => ?_) (fun c7 => ?_)
      · skip
        have c7 : 8 ≤ kq := (nI_leI (by omega) (by omega)).mp c7
        have hk9 : kq = 8 := by omega
        subst hk9
        have hw8 := hmw 8
        have hmtr : 0 ≤ mMt G ∧ mMt G < 20000 := by simp only [mMt]; split <;> omega
        have hstc : mStC G = 0 ∨ mStC G = 1 ∨ mStC G = 2 := by simp only [mStC]; (repeat' split) <;> omega
        have hstl : mStL G = 0 ∨ mStL G = 2 := by simp only [mStL]; (repeat' split) <;> omega
        have hmsr : 0 ≤ mMs G ∧ mMs G < 20000 := by simp only [mMs]; split <;> omega
        refine lv_aload_n hx hb dX10_compares_48 rfl (lv_at hl 0 rfl) ?_
        refine g_get (C := RX10) (T := TX10) (NN := 35) (ci := 10) hx hb hts hinX10 hown hE hG (k := 28) (by omega) rfl rfl 14 (by decide) (hts (.fieldLink RX10 151 "CommutatorModel" "state" "I") (List.mem_of_getElem? (i := 3) rfl)) rfl (v := .int (A 28 14)) rfl dX10_compares_49 ?_
        refine g_top (y := zI (G 28 14)) (hM 28 14 (by omega) (by omega) (by omega)) ?_
        refine lv_iconst (v := nI 1) hx hb dX10_compares_52 (by decide) ?_
        refine lv_icmp_ne (tgt := 107) hx hb dX10_compares_53 (by decide) (fun c53 => ?_) (fun c53 => ?_)
        · skip
          have c53 : ¬ ((G 28 14) = ((1 : Nat) : Int)) := fun z9 => c53 ((cmp_eq (zI_toInt (by omega) (by omega)) (nI_toInt (by omega))).mpr z9)
          refine lv_aload_n hx hb dX10_compares_107 rfl (lv_at hl 0 rfl) ?_
          have LLq123 : ∀  (mq : Int) (hmq : mq = mMs G) (H : Heap) (locs : List Loc) (ls : Array Slot), gH D base sM ad (50 + 2 * n) (gw cy ad n A J) H locs → lv_has ls 3 [(0, .ref (ad 28)), (1, .int (zI (mWrong G 8))), (2, .int (nI 8))] → W pM l eM ({ frames := 0, cells := 0, slots := 0, locals := 0 } : Room) sM mM aM bM methM cM H locs 0 0 (MQ bM (gPost D cy base ad n (PX10_compares ad A J G)) aM sM 0 0 (fun q => base ≤ q)) (F0 mM 123 ls [.int (zI mq), .ref (ad 28)]) := by
            intro mq hmq H locs ls hG hl
            subst hmq
            refine g_puti (C := RX10) (T := TX10) (NN := 35) (ci := 10) hx hb hts hinX10 tyX10 tyX10_ok nmX10 hown hE hG (k := 28) (by omega) rfl rfl 17 (by decide) (hts (.fieldLink RX10 157 "CommutatorModel" "misses" "I") (List.mem_of_getElem? (i := 5) rfl)) rfl rfl (ty := .int) (v := zI (mMs G)) (by decide +kernel) rfl rfl (Nat.le_of_ble_eq_true rfl) rfl dX10_compares_123 (fun H locs hG => ?_)
            refine lv_aload_n hx hb dX10_compares_126 rfl (lv_at hl 0 rfl) ?_
            have LLq140 : ∀  (lq : Int) (hlq : lq = mStL G) (H : Heap) (locs : List Loc) (ls : Array Slot), gH D base sM ad (50 + 2 * n) (gw cy ad n (gu A 28 17 (zI (mMs G))) J) H locs → lv_has ls 3 [(0, .ref (ad 28)), (1, .int (zI (mWrong G 8))), (2, .int (nI 8))] → W pM l eM ({ frames := 0, cells := 0, slots := 0, locals := 0 } : Room) sM mM aM bM methM cM H locs 0 0 (MQ bM (gPost D cy base ad n (PX10_compares ad A J G)) aM sM 0 0 (fun q => base ≤ q)) (F0 mM 140 ls [.int (zI lq), .ref (ad 28)]) := by
              intro lq hlq H locs ls hG hl
              subst hlq
              refine g_puti (C := RX10) (T := TX10) (NN := 35) (ci := 10) hx hb hts hinX10 tyX10 tyX10_ok nmX10 hown hE hG (k := 28) (by omega) rfl rfl 14 (by decide) (hts (.fieldLink RX10 151 "CommutatorModel" "state" "I") (List.mem_of_getElem? (i := 3) rfl)) rfl rfl (ty := .int) (v := zI (mStL G)) (by decide +kernel) rfl rfl (Nat.le_of_ble_eq_true rfl) rfl dX10_compares_140 (fun H locs hG => ?_)
              refine lv_aload_n hx hb dX10_compares_143 rfl (lv_at hl 0 rfl) ?_
              refine lv_aload_n hx hb dX10_compares_144 rfl (lv_at hl 0 rfl) ?_
              refine g_get (C := RX10) (T := TX10) (NN := 35) (ci := 10) hx hb hts hinX10 hown hE hG (k := 28) (by omega) rfl rfl 14 (by decide) (hts (.fieldLink RX10 151 "CommutatorModel" "state" "I") (List.mem_of_getElem? (i := 3) rfl)) rfl (v := .int (zI (mStL G))) rfl dX10_compares_145 ?_
              refine lv_iconst (v := nI 2) hx hb dX10_compares_148 (by decide) ?_
              refine lv_icmp_ne (tgt := 156) hx hb dX10_compares_149 (by decide) (fun c149 => ?_) (fun c149 => ?_)
              · skip
                have c149 : ¬ ((mStL G) = ((2 : Nat) : Int)) := fun z9 => c149 ((cmp_eq (zI_toInt (by omega) (by omega)) (nI_toInt (by omega))).mpr z9)
                refine lv_iconst (v := nI 0) hx hb dX10_compares_156 (by decide) ?_
                refine g_puti (C := RX10) (T := TX10) (NN := 35) (ci := 10) hx hb hts hinX10 tyX10 tyX10_ok nmX10 hown hE hG (k := 28) (by omega) rfl rfl 18 (by decide) (hts (.fieldLink RX10 160 "CommutatorModel" "isDecoded" "Z") (List.mem_of_getElem? (i := 6) rfl)) rfl rfl (ty := .boolean) (v := nI 0) (by decide +kernel) rfl rfl (Nat.le_of_ble_eq_true rfl) rfl dX10_compares_157 (fun H locs hG => ?_)
                exact g_vret hx hb hr hlocks hG ⟨rfl, rfl, (by first | (have h9 : mDec (mStC G) = 1 := if_pos (by omega); have h8 : mCmp G = _ := if_pos (by omega); rw [h8, h9]; exact ((((hM.up 28 16 _).up 28 14 _).up 28 17 0).up 28 18 1)) | (have h9 : mDec (mStC G) = 0 := if_neg (by omega); have h8 : mCmp G = _ := if_pos (by omega); rw [h8, h9]; exact ((((hM.up 28 16 _).up 28 14 _).up 28 17 0).up 28 18 0)) | (have h9 : mDec (mStL G) = 1 := if_pos (by omega); have h8 : mCmp G = _ := if_neg (by omega); rw [h8, h9]; exact (((hM.up 28 17 _).up 28 14 _).up 28 18 1)) | (have h9 : mDec (mStL G) = 0 := if_neg (by omega); have h8 : mCmp G = _ := if_neg (by omega); rw [h8, h9]; exact (((hM.up 28 17 _).up 28 14 _).up 28 18 0))), (by first | exact ((((MOnly.rf.up _ _ (by decide) (by decide)).up _ _ (by decide) (by decide)).up _ _ (by decide) (by decide)).up _ _ (by decide) (by decide)) | exact (((MOnly.rf.up _ _ (by decide) (by decide)).up _ _ (by decide) (by decide)).up _ _ (by decide) (by decide))), rfl⟩ dX10_compares_160
              · skip
                have c149 : (mStL G) = ((2 : Nat) : Int) := (cmp_eq (zI_toInt (by omega) (by omega)) (nI_toInt (by omega))).mp c149
                refine lv_iconst (v := nI 1) hx hb dX10_compares_152 (by decide) ?_
                refine lv_goto (tgt := 157) hx hb dX10_compares_153 (by decide) ?_
                refine g_puti (C := RX10) (T := TX10) (NN := 35) (ci := 10) hx hb hts hinX10 tyX10 tyX10_ok nmX10 hown hE hG (k := 28) (by omega) rfl rfl 18 (by decide) (hts (.fieldLink RX10 160 "CommutatorModel" "isDecoded" "Z") (List.mem_of_getElem? (i := 6) rfl)) rfl rfl (ty := .boolean) (v := nI 1) (by decide +kernel) rfl rfl (Nat.le_of_ble_eq_true rfl) rfl dX10_compares_157 (fun H locs hG => ?_)
                exact g_vret hx hb hr hlocks hG ⟨rfl, rfl, (by first | (have h9 : mDec (mStC G) = 1 := if_pos (by omega); have h8 : mCmp G = _ := if_pos (by omega); rw [h8, h9]; exact ((((hM.up 28 16 _).up 28 14 _).up 28 17 0).up 28 18 1)) | (have h9 : mDec (mStC G) = 0 := if_neg (by omega); have h8 : mCmp G = _ := if_pos (by omega); rw [h8, h9]; exact ((((hM.up 28 16 _).up 28 14 _).up 28 17 0).up 28 18 0)) | (have h9 : mDec (mStL G) = 1 := if_pos (by omega); have h8 : mCmp G = _ := if_neg (by omega); rw [h8, h9]; exact (((hM.up 28 17 _).up 28 14 _).up 28 18 1)) | (have h9 : mDec (mStL G) = 0 := if_neg (by omega); have h8 : mCmp G = _ := if_neg (by omega); rw [h8, h9]; exact (((hM.up 28 17 _).up 28 14 _).up 28 18 0))), (by first | exact ((((MOnly.rf.up _ _ (by decide) (by decide)).up _ _ (by decide) (by decide)).up _ _ (by decide) (by decide)).up _ _ (by decide) (by decide)) | exact (((MOnly.rf.up _ _ (by decide) (by decide)).up _ _ (by decide) (by decide)).up _ _ (by decide) (by decide))), rfl⟩ dX10_compares_160
            refine lv_aload_n hx hb dX10_compares_127 rfl (lv_at hl 0 rfl) ?_
            refine g_get (C := RX10) (T := TX10) (NN := 35) (ci := 10) hx hb hts hinX10 hown hE hG (k := 28) (by omega) rfl rfl 17 (by decide) (hts (.fieldLink RX10 157 "CommutatorModel" "misses" "I") (List.mem_of_getElem? (i := 5) rfl)) rfl (v := .int (zI (mMs G))) rfl dX10_compares_128 ?_
            refine lv_iconst (v := nI 2) hx hb dX10_compares_131 (by decide) ?_
            refine lv_icmp_ne (tgt := 139) hx hb dX10_compares_132 (by decide) (fun c132 => ?_) (fun c132 => ?_)
            · skip
              have c132 : ¬ ((mMs G) = ((2 : Nat) : Int)) := fun z9 => c132 ((cmp_eq (zI_toInt (by omega) (by omega)) (nI_toInt (by omega))).mpr z9)
              refine lv_iconst (v := nI 2) hx hb dX10_compares_139 (by decide) ?_
              exact LLq140 2 (by simp only [mStL]; (repeat' split) <;> omega) _ _ _ hG (lv_sub hl [0, 1, 2] rfl)
            · skip
              have c132 : (mMs G) = ((2 : Nat) : Int) := (cmp_eq (zI_toInt (by omega) (by omega)) (nI_toInt (by omega))).mp c132
              refine lv_iconst (v := nI 0) hx hb dX10_compares_135 (by decide) ?_
              refine lv_goto (tgt := 140) hx hb dX10_compares_136 (by decide) ?_
              exact LLq140 0 (by simp only [mStL]; (repeat' split) <;> omega) _ _ _ hG (lv_sub hl [0, 1, 2] rfl)
          refine lv_iload_n hx hb dX10_compares_108 rfl (lv_at hl 1 rfl) ?_
          refine lv_iconst (v := nI 1) hx hb dX10_compares_109 (by decide) ?_
          refine lv_icmp_gt (tgt := 117) hx hb dX10_compares_110 (by decide) (fun c110 => ?_) (fun c110 => ?_)
          · skip
            have c110 : ((1 : Nat) : Int) < (mWrong G 8) := (cmp_lt (nI_toInt (by omega)) (zI_toInt (by omega) (by omega))).mp c110
            refine lv_aload_n hx hb dX10_compares_117 rfl (lv_at hl 0 rfl) ?_
            refine g_get (C := RX10) (T := TX10) (NN := 35) (ci := 10) hx hb hts hinX10 hown hE hG (k := 28) (by omega) rfl rfl 17 (by decide) (hts (.fieldLink RX10 157 "CommutatorModel" "misses" "I") (List.mem_of_getElem? (i := 5) rfl)) rfl (v := .int (A 28 17)) rfl dX10_compares_118 ?_
            refine g_top (y := zI (G 28 17)) (hM 28 17 (by omega) (by omega) (by omega)) ?_
            refine lv_iconst (v := nI 1) hx hb dX10_compares_121 (by decide) ?_
            refine lv_iadd hx hb dX10_compares_122 ?_
            refine g_top (y := zI ((G 28 17) + 1)) (zI_add_in _ _) ?_
            exact LLq123 ((G 28 17) + 1) (by simp only [mMs]; (repeat' split) <;> omega) _ _ _ hG (lv_sub hl [0, 1, 2] rfl)
          · skip
            have c110 : ¬ (((1 : Nat) : Int) < (mWrong G 8)) := fun z9 => c110 ((cmp_lt (nI_toInt (by omega)) (zI_toInt (by omega) (by omega))).mpr z9)
            refine lv_iconst (v := nI 0) hx hb dX10_compares_113 (by decide) ?_
            refine lv_goto (tgt := 123) hx hb dX10_compares_114 (by decide) ?_
            exact LLq123 0 (by simp only [mMs]; (repeat' split) <;> omega) _ _ _ hG (lv_sub hl [0, 1, 2] rfl)
        · skip
          have c53 : (G 28 14) = ((1 : Nat) : Int) := (cmp_eq (zI_toInt (by omega) (by omega)) (nI_toInt (by omega))).mp c53
          refine lv_aload_n hx hb dX10_compares_56 rfl (lv_at hl 0 rfl) ?_
          refine lv_dup hx hb dX10_compares_57 rfl ?_
          refine g_get (C := RX10) (T := TX10) (NN := 35) (ci := 10) hx hb hts hinX10 hown hE hG (k := 28) (by omega) rfl rfl 16 (by decide) (hts (.fieldLink RX10 154 "CommutatorModel" "matches" "I") (List.mem_of_getElem? (i := 4) rfl)) rfl (v := .int (A 28 16)) rfl dX10_compares_58 ?_
          refine g_top (y := zI (G 28 16)) (hM 28 16 (by omega) (by omega) (by omega)) ?_
          have LLq70 : ∀  (tq : Int) (htq : tq = if mWrong G 8 = 0 then 1 else 0) (H : Heap) (locs : List Loc) (ls : Array Slot), gH D base sM ad (50 + 2 * n) (gw cy ad n A J) H locs → lv_has ls 3 [(0, .ref (ad 28)), (1, .int (zI (mWrong G 8))), (2, .int (nI 8))] → W pM l eM ({ frames := 0, cells := 0, slots := 0, locals := 0 } : Room) sM mM aM bM methM cM H locs 0 0 (MQ bM (gPost D cy base ad n (PX10_compares ad A J G)) aM sM 0 0 (fun q => base ≤ q)) (F0 mM 70 ls [.int (zI tq), .int (zI (G 28 16)), .ref (ad 28)]) := by
            intro tq htq H locs ls hG hl
            subst htq
            refine lv_iadd hx hb dX10_compares_70 ?_
            refine g_top (y := zI ((G 28 16) + (if mWrong G 8 = 0 then 1 else 0))) (zI_add _ _) ?_
            refine g_top (y := zI (mMt G)) (rfl) ?_
            refine g_puti (C := RX10) (T := TX10) (NN := 35) (ci := 10) hx hb hts hinX10 tyX10 tyX10_ok nmX10 hown hE hG (k := 28) (by omega) rfl rfl 16 (by decide) (hts (.fieldLink RX10 154 "CommutatorModel" "matches" "I") (List.mem_of_getElem? (i := 4) rfl)) rfl rfl (ty := .int) (v := zI (mMt G)) (by decide +kernel) rfl rfl (Nat.le_of_ble_eq_true rfl) rfl dX10_compares_71 (fun H locs hG => ?_)
            refine lv_aload_n hx hb dX10_compares_74 rfl (lv_at hl 0 rfl) ?_
            have LLq96 : ∀  (sq : Int) (hsq : sq = mStC G) (H : Heap) (locs : List Loc) (ls : Array Slot), gH D base sM ad (50 + 2 * n) (gw cy ad n (gu A 28 16 (zI (mMt G))) J) H locs → lv_has ls 3 [(0, .ref (ad 28)), (1, .int (zI (mWrong G 8))), (2, .int (nI 8))] → W pM l eM ({ frames := 0, cells := 0, slots := 0, locals := 0 } : Room) sM mM aM bM methM cM H locs 0 0 (MQ bM (gPost D cy base ad n (PX10_compares ad A J G)) aM sM 0 0 (fun q => base ≤ q)) (F0 mM 96 ls [.int (zI sq), .ref (ad 28)]) := by
              intro sq hsq H locs ls hG hl
              subst hsq
              refine g_puti (C := RX10) (T := TX10) (NN := 35) (ci := 10) hx hb hts hinX10 tyX10 tyX10_ok nmX10 hown hE hG (k := 28) (by omega) rfl rfl 14 (by decide) (hts (.fieldLink RX10 151 "CommutatorModel" "state" "I") (List.mem_of_getElem? (i := 3) rfl)) rfl rfl (ty := .int) (v := zI (mStC G)) (by decide +kernel) rfl rfl (Nat.le_of_ble_eq_true rfl) rfl dX10_compares_96 (fun H locs hG => ?_)
              refine lv_aload_n hx hb dX10_compares_99 rfl (lv_at hl 0 rfl) ?_
              refine lv_iconst (v := nI 0) hx hb dX10_compares_100 (by decide) ?_
              refine g_puti (C := RX10) (T := TX10) (NN := 35) (ci := 10) hx hb hts hinX10 tyX10 tyX10_ok nmX10 hown hE hG (k := 28) (by omega) rfl rfl 17 (by decide) (hts (.fieldLink RX10 157 "CommutatorModel" "misses" "I") (List.mem_of_getElem? (i := 5) rfl)) rfl rfl (ty := .int) (v := nI 0) (by decide +kernel) rfl rfl (Nat.le_of_ble_eq_true rfl) rfl dX10_compares_101 (fun H locs hG => ?_)
              refine lv_goto (tgt := 143) hx hb dX10_compares_104 (by decide) ?_
              refine lv_aload_n hx hb dX10_compares_143 rfl (lv_at hl 0 rfl) ?_
              refine lv_aload_n hx hb dX10_compares_144 rfl (lv_at hl 0 rfl) ?_
              refine g_get (C := RX10) (T := TX10) (NN := 35) (ci := 10) hx hb hts hinX10 hown hE hG (k := 28) (by omega) rfl rfl 14 (by decide) (hts (.fieldLink RX10 151 "CommutatorModel" "state" "I") (List.mem_of_getElem? (i := 3) rfl)) rfl (v := .int (zI (mStC G))) rfl dX10_compares_145 ?_
              refine lv_iconst (v := nI 2) hx hb dX10_compares_148 (by decide) ?_
              refine lv_icmp_ne (tgt := 156) hx hb dX10_compares_149 (by decide) (fun c149 => ?_) (fun c149 => ?_)
              · skip
                have c149 : ¬ ((mStC G) = ((2 : Nat) : Int)) := fun z9 => c149 ((cmp_eq (zI_toInt (by omega) (by omega)) (nI_toInt (by omega))).mpr z9)
                refine lv_iconst (v := nI 0) hx hb dX10_compares_156 (by decide) ?_
                refine g_puti (C := RX10) (T := TX10) (NN := 35) (ci := 10) hx hb hts hinX10 tyX10 tyX10_ok nmX10 hown hE hG (k := 28) (by omega) rfl rfl 18 (by decide) (hts (.fieldLink RX10 160 "CommutatorModel" "isDecoded" "Z") (List.mem_of_getElem? (i := 6) rfl)) rfl rfl (ty := .boolean) (v := nI 0) (by decide +kernel) rfl rfl (Nat.le_of_ble_eq_true rfl) rfl dX10_compares_157 (fun H locs hG => ?_)
                exact g_vret hx hb hr hlocks hG ⟨rfl, rfl, (by first | (have h9 : mDec (mStC G) = 1 := if_pos (by omega); have h8 : mCmp G = _ := if_pos (by omega); rw [h8, h9]; exact ((((hM.up 28 16 _).up 28 14 _).up 28 17 0).up 28 18 1)) | (have h9 : mDec (mStC G) = 0 := if_neg (by omega); have h8 : mCmp G = _ := if_pos (by omega); rw [h8, h9]; exact ((((hM.up 28 16 _).up 28 14 _).up 28 17 0).up 28 18 0)) | (have h9 : mDec (mStL G) = 1 := if_pos (by omega); have h8 : mCmp G = _ := if_neg (by omega); rw [h8, h9]; exact (((hM.up 28 17 _).up 28 14 _).up 28 18 1)) | (have h9 : mDec (mStL G) = 0 := if_neg (by omega); have h8 : mCmp G = _ := if_neg (by omega); rw [h8, h9]; exact (((hM.up 28 17 _).up 28 14 _).up 28 18 0))), (by first | exact ((((MOnly.rf.up _ _ (by decide) (by decide)).up _ _ (by decide) (by decide)).up _ _ (by decide) (by decide)).up _ _ (by decide) (by decide)) | exact (((MOnly.rf.up _ _ (by decide) (by decide)).up _ _ (by decide) (by decide)).up _ _ (by decide) (by decide))), rfl⟩ dX10_compares_160
              · skip
                have c149 : (mStC G) = ((2 : Nat) : Int) := (cmp_eq (zI_toInt (by omega) (by omega)) (nI_toInt (by omega))).mp c149
                refine lv_iconst (v := nI 1) hx hb dX10_compares_152 (by decide) ?_
                refine lv_goto (tgt := 157) hx hb dX10_compares_153 (by decide) ?_
                refine g_puti (C := RX10) (T := TX10) (NN := 35) (ci := 10) hx hb hts hinX10 tyX10 tyX10_ok nmX10 hown hE hG (k := 28) (by omega) rfl rfl 18 (by decide) (hts (.fieldLink RX10 160 "CommutatorModel" "isDecoded" "Z") (List.mem_of_getElem? (i := 6) rfl)) rfl rfl (ty := .boolean) (v := nI 1) (by decide +kernel) rfl rfl (Nat.le_of_ble_eq_true rfl) rfl dX10_compares_157 (fun H locs hG => ?_)
                exact g_vret hx hb hr hlocks hG ⟨rfl, rfl, (by first | (have h9 : mDec (mStC G) = 1 := if_pos (by omega); have h8 : mCmp G = _ := if_pos (by omega); rw [h8, h9]; exact ((((hM.up 28 16 _).up 28 14 _).up 28 17 0).up 28 18 1)) | (have h9 : mDec (mStC G) = 0 := if_neg (by omega); have h8 : mCmp G = _ := if_pos (by omega); rw [h8, h9]; exact ((((hM.up 28 16 _).up 28 14 _).up 28 17 0).up 28 18 0)) | (have h9 : mDec (mStL G) = 1 := if_pos (by omega); have h8 : mCmp G = _ := if_neg (by omega); rw [h8, h9]; exact (((hM.up 28 17 _).up 28 14 _).up 28 18 1)) | (have h9 : mDec (mStL G) = 0 := if_neg (by omega); have h8 : mCmp G = _ := if_neg (by omega); rw [h8, h9]; exact (((hM.up 28 17 _).up 28 14 _).up 28 18 0))), (by first | exact ((((MOnly.rf.up _ _ (by decide) (by decide)).up _ _ (by decide) (by decide)).up _ _ (by decide) (by decide)).up _ _ (by decide) (by decide)) | exact (((MOnly.rf.up _ _ (by decide) (by decide)).up _ _ (by decide) (by decide)).up _ _ (by decide) (by decide))), rfl⟩ dX10_compares_160
            refine lv_iload_n hx hb dX10_compares_75 rfl (lv_at hl 1 rfl) ?_
            refine lv_if_le (tgt := 83) hx hb dX10_compares_76 (by decide) (fun c76 => ?_) (fun c76 => ?_)
            · skip
              have c76 : (zI (mWrong G 8)) ≤ nI 0 := c76
              have c76 : (mWrong G 8) ≤ ((0 : Nat) : Int) := (cmp_le (zI_toInt (by omega) (by omega)) (nI_toInt (by omega))).mp c76
              refine lv_aload_n hx hb dX10_compares_83 rfl (lv_at hl 0 rfl) ?_
              refine g_get (C := RX10) (T := TX10) (NN := 35) (ci := 10) hx hb hts hinX10 hown hE hG (k := 28) (by omega) rfl rfl 16 (by decide) (hts (.fieldLink RX10 154 "CommutatorModel" "matches" "I") (List.mem_of_getElem? (i := 4) rfl)) rfl (v := .int (zI (mMt G))) rfl dX10_compares_84 ?_
              refine lv_iconst (v := nI 3) hx hb dX10_compares_87 (by decide) ?_
              refine lv_icmp_ne (tgt := 95) hx hb dX10_compares_88 (by decide) (fun c88 => ?_) (fun c88 => ?_)
              · skip
                have c88 : ¬ ((mMt G) = ((3 : Nat) : Int)) := fun z9 => c88 ((cmp_eq (zI_toInt (by omega) (by omega)) (nI_toInt (by omega))).mpr z9)
                refine lv_iconst (v := nI 1) hx hb dX10_compares_95 (by decide) ?_
                exact LLq96 1 (by simp only [mStC]; (repeat' split) <;> omega) _ _ _ hG (lv_sub hl [0, 1, 2] rfl)
              · skip
                have c88 : (mMt G) = ((3 : Nat) : Int) := (cmp_eq (zI_toInt (by omega) (by omega)) (nI_toInt (by omega))).mp c88
                refine lv_iconst (v := nI 2) hx hb dX10_compares_91 (by decide) ?_
                refine lv_goto (tgt := 96) hx hb dX10_compares_92 (by decide) ?_
                exact LLq96 2 (by simp only [mStC]; (repeat' split) <;> omega) _ _ _ hG (lv_sub hl [0, 1, 2] rfl)
            · skip
              have c76 : ¬ ((zI (mWrong G 8)) ≤ nI 0) := c76
              have c76 : ¬ ((mWrong G 8) ≤ ((0 : Nat) : Int)) := fun z9 => c76 ((cmp_le (zI_toInt (by omega) (by omega)) (nI_toInt (by omega))).mpr z9)
              refine lv_iconst (v := nI 0) hx hb dX10_compares_79 (by decide) ?_
              refine lv_goto (tgt := 96) hx hb dX10_compares_80 (by decide) ?_
              exact LLq96 0 (by simp only [mStC]; (repeat' split) <;> omega) _ _ _ hG (lv_sub hl [0, 1, 2] rfl)
          refine lv_iload_n hx hb dX10_compares_61 rfl (lv_at hl 1 rfl) ?_
          refine lv_if_ne (tgt := 69) hx hb dX10_compares_62 (by decide) (fun c62 => ?_) (fun c62 => ?_)
          · skip
            have c62 : ¬ ((zI (mWrong G 8)) = nI 0) := c62
            have c62 : ¬ ((mWrong G 8) = ((0 : Nat) : Int)) := fun z9 => c62 ((cmp_eq (zI_toInt (by omega) (by omega)) (nI_toInt (by omega))).mpr z9)
            refine lv_iconst (v := nI 0) hx hb dX10_compares_69 (by decide) ?_
            exact LLq70 0 (by first | rw [if_pos (by omega)] | rw [if_neg (by omega)]) _ _ _ hG (lv_sub hl [0, 1, 2] rfl)
          · skip
            have c62 : (zI (mWrong G 8)) = nI 0 := c62
            have c62 : (mWrong G 8) = ((0 : Nat) : Int) := (cmp_eq (zI_toInt (by omega) (by omega)) (nI_toInt (by omega))).mp c62
            refine lv_iconst (v := nI 1) hx hb dX10_compares_65 (by decide) ?_
            refine lv_goto (tgt := 70) hx hb dX10_compares_66 (by decide) ?_
            exact LLq70 1 (by first | rw [if_pos (by omega)] | rw [if_neg (by omega)]) _ _ _ hG (lv_sub hl [0, 1, 2] rfl)
      · skip
        have c7 : ¬ (8 ≤ kq) := fun z9 => c7 ((nI_leI (by omega) (by omega)).mpr z9)
        have hwk := hmw kq
        have htb := tb_01 184 (7 - ((kq : Nat) : Int))
        have hpk := hp (G 28 15 + ((kq : Nat) : Int)).toNat
        refine lv_iload_n hx hb dX10_compares_10 rfl (lv_at hl 1 rfl) ?_
        refine lv_aload_n hx hb dX10_compares_11 rfl (lv_at hl 0 rfl) ?_
        refine g_get (C := RX10) (T := TX10) (NN := 35) (ci := 10) hx hb hts hinX10 hown hE hG (k := 28) (by omega) rfl rfl 13 (by decide) (hts (.fieldLink RX10 37 "CommutatorModel" "past" "[I") (List.mem_of_getElem? (i := 1) rfl)) rfl (v := .ref (ad 38)) rfl dX10_compares_12 ?_
        refine lv_aload_n hx hb dX10_compares_15 rfl (lv_at hl 0 rfl) ?_
        refine g_get (C := RX10) (T := TX10) (NN := 35) (ci := 10) hx hb hts hinX10 hown hE hG (k := 28) (by omega) rfl rfl 15 (by decide) (hts (.fieldLink RX10 75 "CommutatorModel" "begun" "I") (List.mem_of_getElem? (i := 2) rfl)) rfl (v := .int (A 28 15)) rfl dX10_compares_16 ?_
        refine g_top (y := zI (G 28 15)) (hM 28 15 (by omega) (by omega) (by omega)) ?_
        refine lv_iload_n hx hb dX10_compares_19 rfl (lv_at hl 2 rfl) ?_
        refine lv_iadd hx hb dX10_compares_20 ?_
        refine g_top (y := zI ((G 28 15) + ((kq : Nat) : Int))) (zI_add_in _ _) ?_
        refine g_iald hx hb hE hG (k := 38) (by omega) rfl (((G 28 15) + ((kq : Nat) : Int)).toNat) (zI_nat (by omega)) (by omega) (by omega) dX10_compares_21 ?_
        refine g_top (y := zI (G 38 (((G 28 15) + ((kq : Nat) : Int)).toNat))) (hM 38 (((G 28 15) + ((kq : Nat) : Int)).toNat) (by omega) (by omega) (by omega)) ?_
        refine lv_sipush (v := nI 184) hx hb dX10_compares_22 (by decide) ?_
        refine lv_bipush (v := nI 7) hx hb dX10_compares_25 (by decide) ?_
        refine lv_iload_n hx hb dX10_compares_27 rfl (lv_at hl 2 rfl) ?_
        refine lv_isub hx hb dX10_compares_28 ?_
        refine g_top (y := zI (7 - ((kq : Nat) : Int))) (zI_sub_nn _ _) ?_
        refine lv_ishr hx hb dX10_compares_29 ?_
        refine g_top (y := zI 184 >>> (zI (7 - ((kq : Nat) : Int)) &&& 31)) (rfl) ?_
        refine lv_iconst (v := nI 1) hx hb dX10_compares_30 (by decide) ?_
        refine lv_iand hx hb dX10_compares_31 ?_
        refine g_top (y := zI (tb 184 (7 - ((kq : Nat) : Int)))) (z_tb (by omega) (by omega) (by omega) (by omega)) ?_
        refine lv_icmp_ne (tgt := 39) hx hb dX10_compares_32 (by decide) (fun c32 => ?_) (fun c32 => ?_)
        · skip
          have c32 : ¬ ((G 38 (((G 28 15) + ((kq : Nat) : Int)).toNat)) = (tb 184 (7 - ((kq : Nat) : Int)))) := fun z9 => c32 ((cmp_eq (zI_toInt (by omega) (by omega)) (zI_toInt (by omega) (by omega))).mpr z9)
          refine lv_iconst (v := nI 1) hx hb dX10_compares_39 (by decide) ?_
          refine lv_iadd hx hb dX10_compares_40 ?_
          refine g_top (y := zI ((mWrong G kq) + 1)) (zI_add_in _ _) ?_
          refine g_top (y := zI (mWrong G (kq + 1))) (by simp only [mWrong]; first | rw [if_pos (by omega)] | rw [if_neg (by omega)]) ?_
          refine lv_istore_n (lv' := [(1, .int (zI (mWrong G (kq + 1)))), (0, .ref (ad 28)), (2, .int (nI kq))]) hx hb dX10_compares_41 rfl hl (by decide) rfl (fun ls hl => ?_)
          refine lv_iinc (v := nI (kq + 1)) (lv' := [(2, .int (nI (kq + 1))), (1, .int (zI (mWrong G (kq + 1)))), (0, .ref (ad 28))]) hx hb dX10_compares_42 hl (k := 2) rfl (by rw [show (Int32.ofInt 1 : Int32) = nI 1 from rfl, nI_add]) (by decide) rfl (fun ls hl => ?_)
          refine lv_goto (tgt := 4) hx hb dX10_compares_45 (by decide) ?_
          exact ihq4 (kq + 1) (by omega) (by omega) _ _ _ hG (lv_sub hl [2, 1, 0] rfl)
        · skip
          have c32 : (G 38 (((G 28 15) + ((kq : Nat) : Int)).toNat)) = (tb 184 (7 - ((kq : Nat) : Int))) := (cmp_eq (zI_toInt (by omega) (by omega)) (zI_toInt (by omega) (by omega))).mp c32
          refine lv_iconst (v := nI 0) hx hb dX10_compares_35 (by decide) ?_
          refine lv_goto (tgt := 40) hx hb dX10_compares_36 (by decide) ?_
          refine lv_iadd hx hb dX10_compares_40 ?_
          refine g_top (y := zI ((mWrong G kq) + 0)) (zI_add_in _ _) ?_
          refine g_top (y := zI (mWrong G (kq + 1))) (by simp only [mWrong]; first | rw [if_pos (by omega)] | rw [if_neg (by omega)]) ?_
          refine lv_istore_n (lv' := [(1, .int (zI (mWrong G (kq + 1)))), (0, .ref (ad 28)), (2, .int (nI kq))]) hx hb dX10_compares_41 rfl hl (by decide) rfl (fun ls hl => ?_)
          refine lv_iinc (v := nI (kq + 1)) (lv' := [(2, .int (nI (kq + 1))), (1, .int (zI (mWrong G (kq + 1)))), (0, .ref (ad 28))]) hx hb dX10_compares_42 hl (k := 2) rfl (by rw [show (Int32.ofInt 1 : Int32) = nI 1 from rfl, nI_add]) (by decide) rfl (fun ls hl => ?_)
          refine lv_goto (tgt := 4) hx hb dX10_compares_45 (by decide) ?_
          exact ihq4 (kq + 1) (by omega) (by omega) _ _ _ hG (lv_sub hl [2, 1, 0] rfl)
  exact LLq4 _ 0 (by omega) (Nat.lt_succ_self _) _ _ _ hG (lv_sub hl [2, 1, 0] rfl)
