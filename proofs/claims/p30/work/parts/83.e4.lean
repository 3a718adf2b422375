abbrev PX9_derive (ad : Nat → Nat) (A : Nat → Nat → Int32) (J : Nat → Nat → Int64) (G : Nat → Nat → Int) (nq : Nat) (dq oq fq sq : Int) : Option Value → (Nat → Nat → Int32) → (Nat → Nat → Int64) → Prop := fun v_ A1 J1 => (v_ = none ∧ J = J1 ∧ (0 ≤ dq ∧ dq ≤ 7 ∧ 0 ≤ oq ∧ oq ≤ 4 ∧ isOp fq ∧ isOp sq) ∧ (¬ (mReach G fq sq).testBit dq.toNat = true) ∧ (CAll nq A1 J1 (gu (gu (gu G 43 dq.toNat oq) 44 dq.toNat fq) 45 dq.toNat sq)) ∧ (∀ k, 28 ≤ k → A1 k = A k))
abbrev EX9_derive (ad : Nat → Nat) (A : Nat → Nat → Int32) (J : Nat → Nat → Int64) (G : Nat → Nat → Int) (nq : Nat) (dq oq fq sq : Int) : String → (Nat → Nat → Int32) → (Nat → Nat → Int64) → Prop := fun e_ A1 J1 => (e_ = "java/lang/IllegalArgumentException" ∧ A = A1 ∧ J = J1 ∧ (¬ (0 ≤ dq ∧ dq ≤ 7 ∧ 0 ≤ oq ∧ oq ≤ 4 ∧ isOp fq ∧ isOp sq))) ∨ (e_ = "java/lang/IllegalStateException" ∧ A = A1 ∧ J = J1 ∧ (0 ≤ dq ∧ dq ≤ 7 ∧ 0 ≤ oq ∧ oq ≤ 4 ∧ isOp fq ∧ isOp sq) ∧ ((mReach G fq sq).testBit dq.toNat = true))
set_option maxHeartbeats 4000000 in
set_option maxRecDepth 100000 in
theorem cX9_deriveC (l : Launch) (D : va_G) (cy : Nat → ClassId) (base : Nat) (ad : Nat → Nat) (n : Nat) (A : Nat → Nat → Int32) (J : Nat → Nat → Int64) (G : Nat → Nat → Int) (nq : Nat) (dq oq fq sq : Int) (hst : l.stackTraces = false) (hnq : nq = n) (hC : CAll nq A J G) (hdq9 : -2147483648 ≤ dq ∧ dq < 2147483648) (hoq9 : -2147483648 ≤ oq ∧ oq < 2147483648) (hfq9 : -2147483648 ≤ fq ∧ fq < 2147483648) (hsq9 : -2147483648 ≤ sq ∧ sq < 2147483648) : gMetX l yX9_derive wsX9_derive ({ frames := 6, cells := 1, slots := 6, locals := 100 } : Room) D cy base ad n A J [.ref (ad 0), .int (zI dq), .int (zI oq), .int (zI fq), .int (zI sq)] (PX9_derive ad A J G nq dq oq fq sq) (EX9_derive ad A J G nq dq oq fq sq) 1 6 := by
  refine gx_ofW (cc := cX9_derive) (maxL := 5) (ret := none) (by decide) rfl (Nat.le_of_ble_eq_true rfl) ?_
  intro pM eM sM mM aM bM methM cM H locs ls hx hb hr hts hown hlocks hml hout hE hG hl
  have hl : lv_has ls 5 [(0, .ref (ad 0)), (1, .int (zI dq)), (2, .int (zI oq)), (3, .int (zI fq)), (4, .int (zI sq))] := hl
  have hinX1 : ∀ w ∈ u_ws RX1 TX1 5, w ∈ wsX9_derive := by decide +kernel
  have hinX2 : ∀ w ∈ u_ws RX2 TX2 1, w ∈ wsX9_derive := by decide +kernel
  have hinX9 : ∀ w ∈ u_ws RX9 TX9 6, w ∈ wsX9_derive := by decide +kernel
  have hC0 := hC
  rw [hnq] at hC
  obtain ⟨hct, hn, hT, hFs, hpr, hz, hU, hD, hso, hse, hli, hsy, hde, hcd, hok, hdv, hdr, hsn, hol, hln⟩ := id hC
  refine lv_iload_n hx hb dX9_derive_0 rfl (lv_at hl 1 rfl) ?_
  refine g_callS (As := [.int (zI dq)]) (rest := []) ⟨hx, hb, hml, hown, hts⟩ hE hG (cX9_isDerivedC l D cy base ad n A J dq (by first | assumption | omega)) (va_cwS 1 hts gX9_derive_X9_isDerived rfl rfl rfl (by decide +kernel) ⟨Nat.le_of_ble_eq_true rfl, Nat.le_of_ble_eq_true rfl⟩) rfl hl.1 rfl (Nat.le_of_ble_eq_true rfl) dX9_derive_1 ⟨(Nat.le_of_ble_eq_true rfl), (Nat.le_of_ble_eq_true rfl)⟩ (fun v_ A1 J1 H locs hp hG => ?_)
  rcases hp with ⟨rfl, rfl, rfl, hC_1⟩ | ⟨rfl, rfl, rfl, hC_1⟩
  · refine W.eq (g2 := F0 mM 4 ls [.int (nI 1)]) rfl ?_
    refine lv_if_eq (tgt := 31) hx hb dX9_derive_4 (by decide) (fun c4 => ?_) (fun c4 => ?_)
    · skip
      exact absurd c4 (by decide)
    · skip
      refine lv_iload_n hx hb dX9_derive_7 rfl (lv_at hl 2 rfl) ?_
      refine lv_if_lt (tgt := 31) hx hb dX9_derive_8 (by decide) (fun c8 => ?_) (fun c8 => ?_)
      · skip
        have c8 : (zI oq) < nI 0 := c8
        have c8 : oq < ((0 : Nat) : Int) := (cmp_lt (zI_toInt (by omega) (by omega)) (nI_toInt (by omega))).mp c8
        exact gx_throw (cls := "java/lang/IllegalArgumentException") (ik := 55) (ic := 57) hx hb hst hown (by decide +kernel) (hts (.classLink RX9 55 "java/lang/IllegalArgumentException") (List.mem_of_getElem? (i := 1) rfl)) (hts (.initialized "java/lang/IllegalArgumentException") (List.mem_of_getElem? (i := 2) rfl)) (vxg_IA (fun w9 h9 => hts w9 (List.mem_cons_of_mem _ (List.mem_append_left _ (List.mem_append_right _ h9))))) vxo_IA hE hG (hl.1.trans hml.symm) dX9_derive_31 dX9_derive_34 dX9_derive_35 dX9_derive_38 hout (Nat.le_of_ble_eq_true rfl) (Nat.le_of_ble_eq_true rfl) (Nat.le_of_ble_eq_true rfl) (Nat.le_of_ble_eq_true rfl) hlocks (Or.inl ⟨rfl, rfl, rfl, (fun z9 => by first | (exact absurd z9.2.2.2.2.1 (by assumption)) | (exact absurd z9.2.2.2.2.2 (by assumption)) | omega)⟩) (Nat.le_of_ble_eq_true rfl) (Nat.le_of_ble_eq_true rfl)
      · skip
        have c8 : ¬ ((zI oq) < nI 0) := c8
        have c8 : ¬ (oq < ((0 : Nat) : Int)) := fun z9 => c8 ((cmp_lt (zI_toInt (by omega) (by omega)) (nI_toInt (by omega))).mpr z9)
        refine lv_iload_n hx hb dX9_derive_11 rfl (lv_at hl 2 rfl) ?_
        refine lv_iconst (v := nI 4) hx hb dX9_derive_12 (by decide) ?_
        refine lv_icmp_gt (tgt := 31) hx hb dX9_derive_13 (by decide) (fun c13 => ?_) (fun c13 => ?_)
        · skip
          have c13 : ((4 : Nat) : Int) < oq := (cmp_lt (nI_toInt (by omega)) (zI_toInt (by omega) (by omega))).mp c13
          exact gx_throw (cls := "java/lang/IllegalArgumentException") (ik := 55) (ic := 57) hx hb hst hown (by decide +kernel) (hts (.classLink RX9 55 "java/lang/IllegalArgumentException") (List.mem_of_getElem? (i := 1) rfl)) (hts (.initialized "java/lang/IllegalArgumentException") (List.mem_of_getElem? (i := 2) rfl)) (vxg_IA (fun w9 h9 => hts w9 (List.mem_cons_of_mem _ (List.mem_append_left _ (List.mem_append_right _ h9))))) vxo_IA hE hG (hl.1.trans hml.symm) dX9_derive_31 dX9_derive_34 dX9_derive_35 dX9_derive_38 hout (Nat.le_of_ble_eq_true rfl) (Nat.le_of_ble_eq_true rfl) (Nat.le_of_ble_eq_true rfl) (Nat.le_of_ble_eq_true rfl) hlocks (Or.inl ⟨rfl, rfl, rfl, (fun z9 => by first | (exact absurd z9.2.2.2.2.1 (by assumption)) | (exact absurd z9.2.2.2.2.2 (by assumption)) | omega)⟩) (Nat.le_of_ble_eq_true rfl) (Nat.le_of_ble_eq_true rfl)
        · skip
          have c13 : ¬ (((4 : Nat) : Int) < oq) := fun z9 => c13 ((cmp_lt (nI_toInt (by omega)) (zI_toInt (by omega) (by omega))).mpr z9)
          refine lv_iload_n hx hb dX9_derive_16 rfl (lv_at hl 3 rfl) ?_
          refine g_callS (As := [.int (zI fq)]) (rest := []) ⟨hx, hb, hml, hown, hts⟩ hE hG (cX9_isOperandC l D cy base ad n A J fq (by first | assumption | omega)) (va_cwS 1 hts gX9_derive_X9_isOperand rfl rfl rfl (by decide +kernel) ⟨Nat.le_of_ble_eq_true rfl, Nat.le_of_ble_eq_true rfl⟩) rfl hl.1 rfl (Nat.le_of_ble_eq_true rfl) dX9_derive_17 ⟨(Nat.le_of_ble_eq_true rfl), (Nat.le_of_ble_eq_true rfl)⟩ (fun v_ A17 J17 H locs hp hG => ?_)
          rcases hp with ⟨rfl, rfl, rfl, hC_17⟩ | ⟨rfl, rfl, rfl, hC_17⟩
          · refine W.eq (g2 := F0 mM 20 ls [.int (nI 1)]) rfl ?_
            refine lv_if_eq (tgt := 31) hx hb dX9_derive_20 (by decide) (fun c20 => ?_) (fun c20 => ?_)
            · skip
              exact absurd c20 (by decide)
            · skip
              refine lv_iload hx hb dX9_derive_23 (lv_at hl 4 rfl) ?_
              refine g_callS (As := [.int (zI sq)]) (rest := []) ⟨hx, hb, hml, hown, hts⟩ hE hG (cX9_isOperandC l D cy base ad n A J sq (by first | assumption | omega)) (va_cwS 1 hts gX9_derive_X9_isOperand rfl rfl rfl (by decide +kernel) ⟨Nat.le_of_ble_eq_true rfl, Nat.le_of_ble_eq_true rfl⟩) rfl hl.1 rfl (Nat.le_of_ble_eq_true rfl) dX9_derive_25 ⟨(Nat.le_of_ble_eq_true rfl), (Nat.le_of_ble_eq_true rfl)⟩ (fun v_ A25 J25 H locs hp hG => ?_)
              rcases hp with ⟨rfl, rfl, rfl, hC_25⟩ | ⟨rfl, rfl, rfl, hC_25⟩
              · refine W.eq (g2 := F0 mM 28 ls [.int (nI 1)]) rfl ?_
                refine lv_if_ne (tgt := 39) hx hb dX9_derive_28 (by decide) (fun c28 => ?_) (fun c28 => ?_)
                · skip
                  refine lv_aload_n hx hb dX9_derive_39 rfl (lv_at hl 0 rfl) ?_
                  refine g_get (C := RX9) (T := TX9) (NN := 6) (ci := 9) hx hb hts hinX9 hown hE hG (k := 0) (by omega) rfl rfl 5 (by decide) (hts (.fieldLink RX9 47 "Commutator" "derivedTable" "LCommutator$DerivedTable;") (List.mem_of_getElem? (i := 5) rfl)) rfl (v := .ref (ad 10)) rfl dX9_derive_40 ?_
                  refine lv_iload_n hx hb dX9_derive_43 rfl (lv_at hl 1 rfl) ?_
                  refine g_top (y := nI dq.toNat) (zI_nat (by omega)) ?_
                  refine lv_iload_n hx hb dX9_derive_44 rfl (lv_at hl 3 rfl) ?_
                  refine lv_iload hx hb dX9_derive_45 (lv_at hl 4 rfl) ?_
                  refine g_callV (As := [.int (nI dq.toNat), .int (zI fq), .int (zI sq)]) (rest := []) (r := (RX2, TX2, 1)) ⟨hx, hb, hml, hown, hts⟩ hE hG (cX2_wouldNeedItselfC l D cy base ad n A J G dq.toNat fq sq hcd hdv (by first | assumption | omega) (by first | assumption | omega) (by first | assumption | omega)) (cwV 3 hts gX9_derive_X2_wouldNeedItself rfl rfl rfl (by decide +kernel) ⟨Nat.le_of_ble_eq_true rfl, Nat.le_of_ble_eq_true rfl⟩) (by omega) rfl rfl rfl hl.1 rfl (Nat.le_of_ble_eq_true rfl) dX9_derive_47 ⟨(Nat.le_of_ble_eq_true rfl), (Nat.le_of_ble_eq_true rfl)⟩ (fun v_ A47 J47 H locs hp hG => ?_)
                  rcases hp with ⟨rfl, rfl, rfl, hC_47⟩ | ⟨rfl, rfl, rfl, hC_47⟩
                  · refine W.eq (g2 := F0 mM 50 ls [.int (nI 1)]) rfl ?_
                    refine lv_if_eq (tgt := 61) hx hb dX9_derive_50 (by decide) (fun c50 => ?_) (fun c50 => ?_)
                    · skip
                      exact absurd c50 (by decide)
                    · skip
                      exact gx_throw (cls := "java/lang/IllegalStateException") (ik := 65) (ic := 67) hx hb hst hown (by decide +kernel) (hts (.classLink RX9 65 "java/lang/IllegalStateException") (List.mem_of_getElem? (i := 3) rfl)) (hts (.initialized "java/lang/IllegalStateException") (List.mem_of_getElem? (i := 4) rfl)) (vxg_IS (fun w9 h9 => hts w9 (List.mem_cons_of_mem _ (List.mem_append_right _ h9)))) vxo_IS hE hG (hl.1.trans hml.symm) dX9_derive_53 dX9_derive_56 dX9_derive_57 dX9_derive_60 hout (Nat.le_of_ble_eq_true rfl) (Nat.le_of_ble_eq_true rfl) (Nat.le_of_ble_eq_true rfl) (Nat.le_of_ble_eq_true rfl) hlocks (Or.inr ⟨rfl, rfl, rfl, ⟨by omega, by omega, by omega, by omega, by assumption, by assumption⟩, hC_47⟩) (Nat.le_of_ble_eq_true rfl) (Nat.le_of_ble_eq_true rfl)
                  · refine W.eq (g2 := F0 mM 50 ls [.int (nI 0)]) rfl ?_
                    refine lv_if_eq (tgt := 61) hx hb dX9_derive_50 (by decide) (fun c50 => ?_) (fun c50 => ?_)
                    · skip
                      refine lv_aload_n hx hb dX9_derive_61 rfl (lv_at hl 0 rfl) ?_
                      refine g_get (C := RX9) (T := TX9) (NN := 6) (ci := 9) hx hb hts hinX9 hown hE hG (k := 0) (by omega) rfl rfl 5 (by decide) (hts (.fieldLink RX9 47 "Commutator" "derivedTable" "LCommutator$DerivedTable;") (List.mem_of_getElem? (i := 5) rfl)) rfl (v := .ref (ad 10)) rfl dX9_derive_62 ?_
                      refine lv_iload_n hx hb dX9_derive_65 rfl (lv_at hl 1 rfl) ?_
                      refine g_top (y := nI dq.toNat) (zI_nat (by omega)) ?_
                      refine lv_iload_n hx hb dX9_derive_66 rfl (lv_at hl 2 rfl) ?_
                      refine lv_iload_n hx hb dX9_derive_67 rfl (lv_at hl 3 rfl) ?_
                      refine lv_iload hx hb dX9_derive_68 (lv_at hl 4 rfl) ?_
                      refine g_callV (As := [.int (nI dq.toNat), .int (zI oq), .int (zI fq), .int (zI sq)]) (rest := []) (r := (RX2, TX2, 1)) ⟨hx, hb, hml, hown, hts⟩ hE hG (cX2_defineC l D cy base ad n A J dq.toNat oq fq sq (by first | assumption | omega)) (cwV 4 hts gX9_derive_X2_define rfl rfl rfl (by decide +kernel) ⟨Nat.le_of_ble_eq_true rfl, Nat.le_of_ble_eq_true rfl⟩) (by omega) rfl rfl rfl hl.1 rfl (Nat.le_of_ble_eq_true rfl) dX9_derive_70 ⟨(Nat.le_of_ble_eq_true rfl), (Nat.le_of_ble_eq_true rfl)⟩ (fun v_ A70 J70 H locs hp hG => ?_)
                      obtain ⟨rfl, rfl, rfl⟩ := hp
                      refine W.eq (g2 := F0 mM 73 ls []) rfl ?_
                      exact gx_vret hx hb hr hlocks hG (Nat.le_of_ble_eq_true rfl) (Nat.le_of_ble_eq_true rfl) ⟨rfl, rfl, ⟨by omega, by omega, by omega, by omega, by assumption, by assumption⟩, hC_47, (by rw [hnq]; exact hC.derive (by omega) ⟨by omega, by omega⟩ (by assumption) (by assumption)), fun k hk => by rw [gu_ne _ _ _ (by omega), gu_ne _ _ _ (by omega), gu_ne _ _ _ (by omega), gu_ne _ _ _ (by omega)]⟩ dX9_derive_73
                    · skip
                      exact absurd c50 (by decide)
                · skip
                  exact absurd c28 (by decide)
              · refine W.eq (g2 := F0 mM 28 ls [.int (nI 0)]) rfl ?_
                refine lv_if_ne (tgt := 39) hx hb dX9_derive_28 (by decide) (fun c28 => ?_) (fun c28 => ?_)
                · skip
                  exact absurd c28 (by decide)
                · skip
                  exact gx_throw (cls := "java/lang/IllegalArgumentException") (ik := 55) (ic := 57) hx hb hst hown (by decide +kernel) (hts (.classLink RX9 55 "java/lang/IllegalArgumentException") (List.mem_of_getElem? (i := 1) rfl)) (hts (.initialized "java/lang/IllegalArgumentException") (List.mem_of_getElem? (i := 2) rfl)) (vxg_IA (fun w9 h9 => hts w9 (List.mem_cons_of_mem _ (List.mem_append_left _ (List.mem_append_right _ h9))))) vxo_IA hE hG (hl.1.trans hml.symm) dX9_derive_31 dX9_derive_34 dX9_derive_35 dX9_derive_38 hout (Nat.le_of_ble_eq_true rfl) (Nat.le_of_ble_eq_true rfl) (Nat.le_of_ble_eq_true rfl) (Nat.le_of_ble_eq_true rfl) hlocks (Or.inl ⟨rfl, rfl, rfl, (fun z9 => by first | (exact absurd z9.2.2.2.2.1 (by assumption)) | (exact absurd z9.2.2.2.2.2 (by assumption)) | omega)⟩) (Nat.le_of_ble_eq_true rfl) (Nat.le_of_ble_eq_true rfl)
          · refine W.eq (g2 := F0 mM 20 ls [.int (nI 0)]) rfl ?_
            refine lv_if_eq (tgt := 31) hx hb dX9_derive_20 (by decide) (fun c20 => ?_) (fun c20 => ?_)
            · skip
              exact gx_throw (cls := "java/lang/IllegalArgumentException") (ik := 55) (ic := 57) hx hb hst hown (by decide +kernel) (hts (.classLink RX9 55 "java/lang/IllegalArgumentException") (List.mem_of_getElem? (i := 1) rfl)) (hts (.initialized "java/lang/IllegalArgumentException") (List.mem_of_getElem? (i := 2) rfl)) (vxg_IA (fun w9 h9 => hts w9 (List.mem_cons_of_mem _ (List.mem_append_left _ (List.mem_append_right _ h9))))) vxo_IA hE hG (hl.1.trans hml.symm) dX9_derive_31 dX9_derive_34 dX9_derive_35 dX9_derive_38 hout (Nat.le_of_ble_eq_true rfl) (Nat.le_of_ble_eq_true rfl) (Nat.le_of_ble_eq_true rfl) (Nat.le_of_ble_eq_true rfl) hlocks (Or.inl ⟨rfl, rfl, rfl, (fun z9 => by first | (exact absurd z9.2.2.2.2.1 (by assumption)) | (exact absurd z9.2.2.2.2.2 (by assumption)) | omega)⟩) (Nat.le_of_ble_eq_true rfl) (Nat.le_of_ble_eq_true rfl)
            · skip
              exact absurd c20 (by decide)
  · refine W.eq (g2 := F0 mM 4 ls [.int (nI 0)]) rfl ?_
    refine lv_if_eq (tgt := 31) hx hb dX9_derive_4 (by decide) (fun c4 => ?_) (fun c4 => ?_)
    · skip
      exact gx_throw (cls := "java/lang/IllegalArgumentException") (ik := 55) (ic := 57) hx hb hst hown (by decide +kernel) (hts (.classLink RX9 55 "java/lang/IllegalArgumentException") (List.mem_of_getElem? (i := 1) rfl)) (hts (.initialized "java/lang/IllegalArgumentException") (List.mem_of_getElem? (i := 2) rfl)) (vxg_IA (fun w9 h9 => hts w9 (List.mem_cons_of_mem _ (List.mem_append_left _ (List.mem_append_right _ h9))))) vxo_IA hE hG (hl.1.trans hml.symm) dX9_derive_31 dX9_derive_34 dX9_derive_35 dX9_derive_38 hout (Nat.le_of_ble_eq_true rfl) (Nat.le_of_ble_eq_true rfl) (Nat.le_of_ble_eq_true rfl) (Nat.le_of_ble_eq_true rfl) hlocks (Or.inl ⟨rfl, rfl, rfl, (fun z9 => by first | (exact absurd z9.2.2.2.2.1 (by assumption)) | (exact absurd z9.2.2.2.2.2 (by assumption)) | omega)⟩) (Nat.le_of_ble_eq_true rfl) (Nat.le_of_ble_eq_true rfl)
    · skip
      exact absurd c4 (by decide)

abbrev PX9_resultOf (ad : Nat → Nat) (A : Nat → Nat → Int32) (J : Nat → Nat → Int64) (G : Nat → Nat → Int) (nq : Nat) (zq : Int) : Option Value → (Nat → Nat → Int32) → (Nat → Nat → Int64) → Prop := fun v_ A1 J1 => (∃ (iq : Nat), v_ = some (.ref (ad (12 + 2 * iq + 1))) ∧ J = J1 ∧ (iq < 8 ∧ zq = (iq : Int) ∧ mDers G 46 iq = 1) ∧ (CRs A1 (mDers G)) ∧ (∀ k, k < 12 ∨ 28 ≤ k ∨ k % 2 = 0 → A1 k = A k))
abbrev EX9_resultOf (ad : Nat → Nat) (A : Nat → Nat → Int32) (J : Nat → Nat → Int64) (G : Nat → Nat → Int) (nq : Nat) (zq : Int) : String → (Nat → Nat → Int32) → (Nat → Nat → Int64) → Prop := fun e_ A1 J1 => (e_ = "java/lang/IllegalArgumentException" ∧ A = A1 ∧ J = J1 ∧ (¬ (0 ≤ zq ∧ zq < 8))) ∨ (e_ = "java/util/NoSuchElementException" ∧ J = J1 ∧ (0 ≤ zq ∧ zq < 8 ∧ mDers G 46 zq.toNat = 0) ∧ (∀ k, k < 12 ∨ 28 ≤ k ∨ k % 2 = 0 → A1 k = A k))
set_option maxHeartbeats 4000000 in
set_option maxRecDepth 100000 in
theorem cX9_resultOfC (l : Launch) (D : va_G) (cy : Nat → ClassId) (base : Nat) (ad : Nat → Nat) (n : Nat) (A : Nat → Nat → Int32) (J : Nat → Nat → Int64) (G : Nat → Nat → Int) (nq : Nat) (zq : Int) (hst : l.stackTraces = false) (hnq : nq = n) (hC : CAll nq A J G) (hzq : -2147483648 ≤ zq ∧ zq < 2147483648) : gMetX l yX9_resultOf wsX9_resultOf ({ frames := 6, cells := 1, slots := 6, locals := 155 } : Room) D cy base ad n A J [.ref (ad 0), .int (zI zq)] (PX9_resultOf ad A J G nq zq) (EX9_resultOf ad A J G nq zq) 1 6 := by
  refine gx_ofW (cc := cX9_resultOf) (maxL := 3) (ret := (some (.object "Commutator$Reading"))) (by decide) rfl (Nat.le_of_ble_eq_true rfl) ?_
  intro pM eM sM mM aM bM methM cM H locs ls hx hb hr hts hown hlocks hml hout hE hG hl
  have hl : lv_has ls 3 [(0, .ref (ad 0)), (1, .int (zI zq))] := hl
  have hinX1 : ∀ w ∈ u_ws RX1 TX1 5, w ∈ wsX9_resultOf := by decide +kernel
  have hinX2 : ∀ w ∈ u_ws RX2 TX2 1, w ∈ wsX9_resultOf := by decide +kernel
  have hinX4 : ∀ w ∈ u_ws RX4 TX4 10, w ∈ wsX9_resultOf := by decide +kernel
  have hinX5 : ∀ w ∈ u_ws RX5 TX5 3, w ∈ wsX9_resultOf := by decide +kernel
  have hinX6 : ∀ w ∈ u_ws RX6 TX6 3, w ∈ wsX9_resultOf := by decide +kernel
  have hinX9 : ∀ w ∈ u_ws RX9 TX9 6, w ∈ wsX9_resultOf := by decide +kernel
  have hC0 := hC
  rw [hnq] at hC
  obtain ⟨hct, hn, hT, hFs, hpr, hz, hU, hD, hso, hse, hli, hsy, hde, hcd, hok, hdv, hdr, hsn, hol, hln⟩ := id hC
  have hg8 : gSt G (mDers G) := (gSt.clr hdr).derR hdv 8
  refine lv_iload_n hx hb dX9_resultOf_0 rfl (lv_at hl 1 rfl) ?_
  refine g_callS (As := [.int (zI zq)]) (rest := []) ⟨hx, hb, hml, hown, hts⟩ hE hG (cX9_isDerivedC l D cy base ad n A J zq (by first | assumption | omega)) (va_cwS 1 hts gX9_resultOf_X9_isDerived rfl rfl rfl (by decide +kernel) ⟨Nat.le_of_ble_eq_true rfl, Nat.le_of_ble_eq_true rfl⟩) rfl hl.1 rfl (Nat.le_of_ble_eq_true rfl) dX9_resultOf_1 ⟨(Nat.le_of_ble_eq_true rfl), (Nat.le_of_ble_eq_true rfl)⟩ (fun v_ A1 J1 H locs hp hG => ?_)
  rcases hp with ⟨rfl, rfl, rfl, hC_1⟩ | ⟨rfl, rfl, rfl, hC_1⟩
  · refine W.eq (g2 := F0 mM 4 ls [.int (nI 1)]) rfl ?_
    refine lv_if_ne (tgt := 15) hx hb dX9_resultOf_4 (by decide) (fun c4 => ?_) (fun c4 => ?_)
    · skip
      refine lv_aload_n hx hb dX9_resultOf_15 rfl (lv_at hl 0 rfl) ?_
      refine g_get (C := RX9) (T := TX9) (NN := 6) (ci := 9) hx hb hts hinX9 hown hE hG (k := 0) (by omega) rfl rfl 5 (by decide) (hts (.fieldLink RX9 47 "Commutator" "derivedTable" "LCommutator$DerivedTable;") (List.mem_of_getElem? (i := 5) rfl)) rfl (v := .ref (ad 10)) rfl dX9_resultOf_16 ?_
      refine lv_iload_n hx hb dX9_resultOf_19 rfl (lv_at hl 1 rfl) ?_
      refine g_top (y := nI zq.toNat) (zI_nat (by omega)) ?_
      refine lv_aload_n hx hb dX9_resultOf_20 rfl (lv_at hl 0 rfl) ?_
      refine g_get (C := RX9) (T := TX9) (NN := 6) (ci := 9) hx hb hts hinX9 hown hE hG (k := 0) (by omega) rfl rfl 0 (by decide) (hts (.fieldLink RX9 10 "Commutator" "table" "LCommutator$PointTable;") (List.mem_of_getElem? (i := 6) rfl)) rfl (v := .ref (ad 1)) rfl dX9_resultOf_21 ?_
      refine g_callV (As := [.int (nI zq.toNat), .ref (ad 1)]) (rest := []) (r := (RX2, TX2, 1)) ⟨hx, hb, hml, hown, hts⟩ hE hG (cX2_computeC l D cy base ad n A J G zq.toNat hcd hdv (by first | assumption | omega) (by first | assumption | omega) (by first | assumption | omega) (by first | assumption | omega) (by first | assumption | omega) (by first | assumption | omega) (fun i => (hok.2.2.2.2.2 i).1.1)) (cwV 2 hts gX9_resultOf_X2_compute rfl rfl rfl (by decide +kernel) ⟨Nat.le_of_ble_eq_true rfl, Nat.le_of_ble_eq_true rfl⟩) (by omega) rfl rfl rfl hl.1 rfl (Nat.le_of_ble_eq_true rfl) dX9_resultOf_24 ⟨(Nat.le_of_ble_eq_true rfl), (Nat.le_of_ble_eq_true rfl)⟩ (fun v_ A24 J24 H locs hp hG => ?_)
      obtain ⟨rfl, rfl, hcr1_24, hO1_24⟩ := hp
      refine W.eq (g2 := F0 mM 27 ls [.ref (ad (12 + 2 * zq.toNat + 1))]) rfl ?_
      have h46 := (hg8.2.1 zq.toNat).1
      refine lv_astore_n (lv' := [(2, .ref (ad (12 + 2 * zq.toNat + 1))), (0, .ref (ad 0)), (1, .int (zI zq))]) hx hb dX9_resultOf_27 rfl hl (by decide) rfl (fun ls hl => ?_)
      refine lv_aload_n hx hb dX9_resultOf_28 rfl (lv_at hl 0 rfl) ?_
      refine lv_ifnull hx hb dX9_resultOf_29 ?_
      refine lv_aload_n hx hb dX9_resultOf_32 rfl (lv_at hl 0 rfl) ?_
      refine g_getN (C := RX6) (T := TX6) (NN := 3) (ci := 6) hx hb hts hinX6 hown hE hG (k := 12 + 2 * zq.toNat + 1) (by omega) (gw_rd cy ad n _ _ (by omega)) rfl 0 (by decide) 19 rfl rfl (v := .int (A24 (12 + 2 * zq.toNat + 1) 0)) rfl dX9_resultOf_33 ?_
      refine g_top (y := zI (mDers G 46 zq.toNat)) ((hcr1_24 _ (by omega)).1) ?_
      refine lv_if_ne (tgt := 47) hx hb dX9_resultOf_36 (by decide) (fun c36 => ?_) (fun c36 => ?_)
      · skip
        have c36 : ¬ ((zI (mDers G 46 zq.toNat)) = nI 0) := c36
        have c36 : ¬ ((mDers G 46 zq.toNat) = ((0 : Nat) : Int)) := fun z9 => c36 ((cmp_eq (zI_toInt (by omega) (by omega)) (nI_toInt (by omega))).mpr z9)
        refine lv_aload_n hx hb dX9_resultOf_47 rfl (lv_at hl 0 rfl) ?_
        exact gx_aret hx hb hr hlocks (Or.inr ⟨_, rfl⟩) hG (Nat.le_of_ble_eq_true rfl) (Nat.le_of_ble_eq_true rfl) ⟨_, rfl, rfl, ⟨by omega, by omega, by omega⟩, hcr1_24, hO1_24⟩ dX9_resultOf_48
      · skip
        have c36 : (zI (mDers G 46 zq.toNat)) = nI 0 := c36
        have c36 : (mDers G 46 zq.toNat) = ((0 : Nat) : Int) := (cmp_eq (zI_toInt (by omega) (by omega)) (nI_toInt (by omega))).mp c36
        exact gx_throw (cls := "java/util/NoSuchElementException") (ik := 157) (ic := 159) hx hb hst hown (by decide +kernel) (hts (.classLink RX9 157 "java/util/NoSuchElementException") (List.mem_of_getElem? (i := 3) rfl)) (hts (.initialized "java/util/NoSuchElementException") (List.mem_of_getElem? (i := 4) rfl)) (vxg_NS (fun w9 h9 => hts w9 (List.mem_cons_of_mem _ (List.mem_append_right _ h9)))) vxo_NS hE hG (hl.1.trans hml.symm) dX9_resultOf_39 dX9_resultOf_42 dX9_resultOf_43 dX9_resultOf_46 hout (Nat.le_of_ble_eq_true rfl) (Nat.le_of_ble_eq_true rfl) (Nat.le_of_ble_eq_true rfl) (Nat.le_of_ble_eq_true rfl) hlocks (Or.inr ⟨rfl, rfl, ⟨by omega, by omega, by omega⟩, hO1_24⟩) (Nat.le_of_ble_eq_true rfl) (Nat.le_of_ble_eq_true rfl)
    · skip
      exact absurd c4 (by decide)
  · refine W.eq (g2 := F0 mM 4 ls [.int (nI 0)]) rfl ?_
    refine lv_if_ne (tgt := 15) hx hb dX9_resultOf_4 (by decide) (fun c4 => ?_) (fun c4 => ?_)
    · skip
      exact absurd c4 (by decide)
    · skip
      exact gx_throw (cls := "java/lang/IllegalArgumentException") (ik := 55) (ic := 57) hx hb hst hown (by decide +kernel) (hts (.classLink RX9 55 "java/lang/IllegalArgumentException") (List.mem_of_getElem? (i := 1) rfl)) (hts (.initialized "java/lang/IllegalArgumentException") (List.mem_of_getElem? (i := 2) rfl)) (vxg_IA (fun w9 h9 => hts w9 (List.mem_cons_of_mem _ (List.mem_append_left _ (List.mem_append_right _ h9))))) vxo_IA hE hG (hl.1.trans hml.symm) dX9_resultOf_7 dX9_resultOf_10 dX9_resultOf_11 dX9_resultOf_14 hout (Nat.le_of_ble_eq_true rfl) (Nat.le_of_ble_eq_true rfl) (Nat.le_of_ble_eq_true rfl) (Nat.le_of_ble_eq_true rfl) hlocks (Or.inl ⟨rfl, rfl, rfl, (by first | assumption | omega)⟩) (Nat.le_of_ble_eq_true rfl) (Nat.le_of_ble_eq_true rfl)

abbrev PX9_derivedValue (ad : Nat → Nat) (A : Nat → Nat → Int32) (J : Nat → Nat → Int64) (G : Nat → Nat → Int) (nq : Nat) (zq : Int) : Option Value → (Nat → Nat → Int32) → (Nat → Nat → Int64) → Prop := fun v_ A1 J1 => (∃ (iq : Nat), v_ = some (.int (zI (mDers G 47 iq))) ∧ J = J1 ∧ (iq < 8 ∧ zq = (iq : Int) ∧ mDers G 46 iq = 1) ∧ (∀ k, k < 12 ∨ 28 ≤ k ∨ k % 2 = 0 → A1 k = A k))
abbrev EX9_derivedValue (ad : Nat → Nat) (A : Nat → Nat → Int32) (J : Nat → Nat → Int64) (G : Nat → Nat → Int) (nq : Nat) (zq : Int) : String → (Nat → Nat → Int32) → (Nat → Nat → Int64) → Prop := fun e_ A1 J1 => (e_ = "java/lang/IllegalArgumentException" ∧ A = A1 ∧ J = J1 ∧ (¬ (0 ≤ zq ∧ zq < 8))) ∨ (e_ = "java/util/NoSuchElementException" ∧ J = J1 ∧ (0 ≤ zq ∧ zq < 8 ∧ mDers G 46 zq.toNat = 0) ∧ (∀ k, k < 12 ∨ 28 ≤ k ∨ k % 2 = 0 → A1 k = A k))
set_option maxHeartbeats 4000000 in
set_option maxRecDepth 100000 in
theorem cX9_derivedValueC (l : Launch) (D : va_G) (cy : Nat → ClassId) (base : Nat) (ad : Nat → Nat) (n : Nat) (A : Nat → Nat → Int32) (J : Nat → Nat → Int64) (G : Nat → Nat → Int) (nq : Nat) (zq : Int) (hst : l.stackTraces = false) (hnq : nq = n) (hC : CAll nq A J G) (hzq : -2147483648 ≤ zq ∧ zq < 2147483648) : gMetX l yX9_derivedValue wsX9_derivedValue ({ frames := 7, cells := 1, slots := 6, locals := 177 } : Room) D cy base ad n A J [.ref (ad 0), .int (zI zq)] (PX9_derivedValue ad A J G nq zq) (EX9_derivedValue ad A J G nq zq) 1 6 := by
  refine gx_ofW (cc := cX9_derivedValue) (maxL := 2) (ret := (some .int)) (by decide) rfl (Nat.le_of_ble_eq_true rfl) ?_
  intro pM eM sM mM aM bM methM cM H locs ls hx hb hr hts hown hlocks hml hout hE hG hl
  have hl : lv_has ls 2 [(0, .ref (ad 0)), (1, .int (zI zq))] := hl
  have hinX1 : ∀ w ∈ u_ws RX1 TX1 5, w ∈ wsX9_derivedValue := by decide +kernel
  have hinX2 : ∀ w ∈ u_ws RX2 TX2 1, w ∈ wsX9_derivedValue := by decide +kernel
  have hinX4 : ∀ w ∈ u_ws RX4 TX4 10, w ∈ wsX9_derivedValue := by decide +kernel
  have hinX5 : ∀ w ∈ u_ws RX5 TX5 3, w ∈ wsX9_derivedValue := by decide +kernel
  have hinX6 : ∀ w ∈ u_ws RX6 TX6 3, w ∈ wsX9_derivedValue := by decide +kernel
  have hinX9 : ∀ w ∈ u_ws RX9 TX9 6, w ∈ wsX9_derivedValue := by decide +kernel
  have hC0 := hC
  rw [hnq] at hC
  obtain ⟨hct, hn, hT, hFs, hpr, hz, hU, hD, hso, hse, hli, hsy, hde, hcd, hok, hdv, hdr, hsn, hol, hln⟩ := id hC
  refine lv_aload_n hx hb dX9_derivedValue_0 rfl (lv_at hl 0 rfl) ?_
  refine lv_iload_n hx hb dX9_derivedValue_1 rfl (lv_at hl 1 rfl) ?_
  refine gx_callV (As := [.int (zI zq)]) (rest := []) (r := (RX9, TX9, 6)) ⟨hx, hb, hml, hown, hts⟩ hE hG (cX9_resultOfC l D cy base ad n A J G n zq (by first | assumption | omega) (by first | assumption | omega) (by first | assumption | omega) (by first | assumption | omega)) (cwV 1 hts gX9_derivedValue_X9_resultOf rfl rfl rfl (by decide +kernel) ⟨Nat.le_of_ble_eq_true rfl, Nat.le_of_ble_eq_true rfl⟩) (by omega) rfl rfl rfl hl.1 rfl (Nat.le_of_ble_eq_true rfl) dX9_derivedValue_2 ⟨(Nat.le_of_ble_eq_true rfl), (Nat.le_of_ble_eq_true rfl)⟩ hout hlocks (fun e_ A_ J_ hz => by
    rcases hz with ⟨he_, hA_, hJ_, hf0_⟩ | ⟨he_, hJ_, hf0_, hf1_⟩
    · exact Or.inl ⟨he_, hA_, hJ_, (by first | assumption | omega)⟩
    · exact Or.inr ⟨he_, hJ_, (by first | assumption | omega), (by first | assumption | omega)⟩) (Nat.le_of_ble_eq_true rfl) (Nat.le_of_ble_eq_true rfl) (fun v_ A2 J2 H locs hp hG => ?_)
  obtain ⟨iq_2, rfl, rfl, hiq_2, hcr_2, hO_2⟩ := hp
  refine W.eq (g2 := F0 mM 5 ls [.ref (ad (12 + 2 * iq_2 + 1))]) rfl ?_
  refine g_getN (C := RX6) (T := TX6) (NN := 3) (ci := 6) hx hb hts hinX6 hown hE hG (k := 12 + 2 * iq_2 + 1) (by omega) (gw_rd cy ad n _ _ (by omega)) rfl 1 (by decide) 21 rfl rfl (v := .int (A2 (12 + 2 * iq_2 + 1) 1)) rfl dX9_derivedValue_5 ?_
  refine g_top (y := zI (mDers G 47 iq_2)) (((hcr_2 iq_2 hiq_2.1).2 hiq_2.2.2).1) ?_
  exact gx_iret hx hb hr hlocks hG (Nat.le_of_ble_eq_true rfl) (Nat.le_of_ble_eq_true rfl) ⟨_, rfl, rfl, hiq_2, hO_2⟩ dX9_derivedValue_8

abbrev PX9_derivedTime (ad : Nat → Nat) (A : Nat → Nat → Int32) (J : Nat → Nat → Int64) (G : Nat → Nat → Int) (nq : Nat) (zq : Int) : Option Value → (Nat → Nat → Int32) → (Nat → Nat → Int64) → Prop := fun v_ A1 J1 => (∃ (iq : Nat), v_ = some (.int (zI (mDers G 48 iq))) ∧ J = J1 ∧ (iq < 8 ∧ zq = (iq : Int) ∧ mDers G 46 iq = 1) ∧ (∀ k, k < 12 ∨ 28 ≤ k ∨ k % 2 = 0 → A1 k = A k))
abbrev EX9_derivedTime (ad : Nat → Nat) (A : Nat → Nat → Int32) (J : Nat → Nat → Int64) (G : Nat → Nat → Int) (nq : Nat) (zq : Int) : String → (Nat → Nat → Int32) → (Nat → Nat → Int64) → Prop := fun e_ A1 J1 => (e_ = "java/lang/IllegalArgumentException" ∧ A = A1 ∧ J = J1 ∧ (¬ (0 ≤ zq ∧ zq < 8))) ∨ (e_ = "java/util/NoSuchElementException" ∧ J = J1 ∧ (0 ≤ zq ∧ zq < 8 ∧ mDers G 46 zq.toNat = 0) ∧ (∀ k, k < 12 ∨ 28 ≤ k ∨ k % 2 = 0 → A1 k = A k))
set_option maxHeartbeats 4000000 in
set_option maxRecDepth 100000 in
theorem cX9_derivedTimeC (l : Launch) (D : va_G) (cy : Nat → ClassId) (base : Nat) (ad : Nat → Nat) (n : Nat) (A : Nat → Nat → Int32) (J : Nat → Nat → Int64) (G : Nat → Nat → Int) (nq : Nat) (zq : Int) (hst : l.stackTraces = false) (hnq : nq = n) (hC : CAll nq A J G) (hzq : -2147483648 ≤ zq ∧ zq < 2147483648) : gMetX l yX9_derivedTime wsX9_derivedTime ({ frames := 7, cells := 1, slots := 6, locals := 177 } : Room) D cy base ad n A J [.ref (ad 0), .int (zI zq)] (PX9_derivedTime ad A J G nq zq) (EX9_derivedTime ad A J G nq zq) 1 6 := by
  refine gx_ofW (cc := cX9_derivedTime) (maxL := 2) (ret := (some .int)) (by decide) rfl (Nat.le_of_ble_eq_true rfl) ?_
  intro pM eM sM mM aM bM methM cM H locs ls hx hb hr hts hown hlocks hml hout hE hG hl
  have hl : lv_has ls 2 [(0, .ref (ad 0)), (1, .int (zI zq))] := hl
  have hinX1 : ∀ w ∈ u_ws RX1 TX1 5, w ∈ wsX9_derivedTime := by decide +kernel
  have hinX2 : ∀ w ∈ u_ws RX2 TX2 1, w ∈ wsX9_derivedTime := by decide +kernel
  have hinX4 : ∀ w ∈ u_ws RX4 TX4 10, w ∈ wsX9_derivedTime := by decide +kernel
  have hinX5 : ∀ w ∈ u_ws RX5 TX5 3, w ∈ wsX9_derivedTime := by decide +kernel
  have hinX6 : ∀ w ∈ u_ws RX6 TX6 3, w ∈ wsX9_derivedTime := by decide +kernel
  have hinX9 : ∀ w ∈ u_ws RX9 TX9 6, w ∈ wsX9_derivedTime := by decide +kernel
  have hC0 := hC
  rw [hnq] at hC
  obtain ⟨hct, hn, hT, hFs, hpr, hz, hU, hD, hso, hse, hli, hsy, hde, hcd, hok, hdv, hdr, hsn, hol, hln⟩ := id hC
  refine lv_aload_n hx hb dX9_derivedTime_0 rfl (lv_at hl 0 rfl) ?_
  refine lv_iload_n hx hb dX9_derivedTime_1 rfl (lv_at hl 1 rfl) ?_
  refine gx_callV (As := [.int (zI zq)]) (rest := []) (r := (RX9, TX9, 6)) ⟨hx, hb, hml, hown, hts⟩ hE hG (cX9_resultOfC l D cy base ad n A J G n zq (by first | assumption | omega) (by first | assumption | omega) (by first | assumption | omega) (by first | assumption | omega)) (cwV 1 hts gX9_derivedTime_X9_resultOf rfl rfl rfl (by decide +kernel) ⟨Nat.le_of_ble_eq_true rfl, Nat.le_of_ble_eq_true rfl⟩) (by omega) rfl rfl rfl hl.1 rfl (Nat.le_of_ble_eq_true rfl) dX9_derivedTime_2 ⟨(Nat.le_of_ble_eq_true rfl), (Nat.le_of_ble_eq_true rfl)⟩ hout hlocks (fun e_ A_ J_ hz => by
    rcases hz with ⟨he_, hA_, hJ_, hf0_⟩ | ⟨he_, hJ_, hf0_, hf1_⟩
    · exact Or.inl ⟨he_, hA_, hJ_, (by first | assumption | omega)⟩
    · exact Or.inr ⟨he_, hJ_, (by first | assumption | omega), (by first | assumption | omega)⟩) (Nat.le_of_ble_eq_true rfl) (Nat.le_of_ble_eq_true rfl) (fun v_ A2 J2 H locs hp hG => ?_)
  obtain ⟨iq_2, rfl, rfl, hiq_2, hcr_2, hO_2⟩ := hp
  refine W.eq (g2 := F0 mM 5 ls [.ref (ad (12 + 2 * iq_2 + 1))]) rfl ?_
  refine g_getN (C := RX6) (T := TX6) (NN := 3) (ci := 6) hx hb hts hinX6 hown hE hG (k := 12 + 2 * iq_2 + 1) (by omega) (gw_rd cy ad n _ _ (by omega)) rfl 2 (by decide) 23 rfl rfl (v := .int (A2 (12 + 2 * iq_2 + 1) 2)) rfl dX9_derivedTime_5 ?_
  refine g_top (y := zI (mDers G 48 iq_2)) (((hcr_2 iq_2 hiq_2.1).2 hiq_2.2.2).2) ?_
  exact gx_iret hx hb hr hlocks hG (Nat.le_of_ble_eq_true rfl) (Nat.le_of_ble_eq_true rfl) ⟨_, rfl, rfl, hiq_2, hO_2⟩ dX9_derivedTime_8

theorem mSend_12 (G : Nat → Nat → Int) (q : Nat) : mSend G q 28 12 = G 28 12 := by
  induction q with
  | zero => rfl
  | succ q ih => exact (mSW_k _ (by omega) (by omega) (by omega)).trans ih
theorem mSend_0 (G : Nat → Nat → Int) (q : Nat) : mSend G q 28 0 = G 28 0 := by
  induction q with
  | zero => rfl
  | succ q ih => exact (mSW_k _ (by omega) (by omega) (by omega)).trans ih
abbrev PX9_send (ad : Nat → Nat) (A : Nat → Nat → Int32) (J : Nat → Nat → Int64) (G : Nat → Nat → Int) (nq : Nat) (zq : Int) : Option Value → (Nat → Nat → Int32) → (Nat → Nat → Int64) → Prop := fun v_ A1 J1 => (v_ = some (.int (zI (G 28 10 + 8 * zq))) ∧ (1 ≤ zq ∧ zq ≤ 64 ∧ G 28 9 + zq ≤ 1000) ∧ (CAll nq A1 J1 (mSend G zq.toNat)) ∧ (∀ k, 28 ≤ k → k < 33 → A1 k = A k) ∧ (∀ k, 28 ≤ k → J1 k = J k))
abbrev EX9_send (ad : Nat → Nat) (A : Nat → Nat → Int32) (J : Nat → Nat → Int64) (G : Nat → Nat → Int) (nq : Nat) (zq : Int) : String → (Nat → Nat → Int32) → (Nat → Nat → Int64) → Prop := fun e_ A1 J1 => (e_ = "java/lang/IllegalArgumentException" ∧ A = A1 ∧ J = J1 ∧ (¬ (1 ≤ zq ∧ zq ≤ 64))) ∨ (e_ = "java/lang/IllegalStateException" ∧ A = A1 ∧ J = J1 ∧ (1 ≤ zq ∧ zq ≤ 64 ∧ 1000 < G 28 9 + zq))
set_option maxHeartbeats 4000000 in
set_option maxRecDepth 100000 in
theorem cX9_sendC (l : Launch) (D : va_G) (cy : Nat → ClassId) (base : Nat) (ad : Nat → Nat) (n : Nat) (A : Nat → Nat → Int32) (J : Nat → Nat → Int64) (G : Nat → Nat → Int) (nq : Nat) (zq : Int) (hst : l.stackTraces = false) (hnq : nq = n) (hC : CAll nq A J G) (hzq : -2147483648 ≤ zq ∧ zq < 2147483648) : gMetX l yX9_send wsX9_send ({ frames := 6, cells := 1, slots := 6, locals := 100 } : Room) D cy base ad n A J [.ref (ad 0), .int (zI zq)] (PX9_send ad A J G nq zq) (EX9_send ad A J G nq zq) 1 6 := by
  refine gx_ofW (cc := cX9_send) (maxL := 3) (ret := (some .int)) (by decide) rfl (Nat.le_of_ble_eq_true rfl) ?_
  intro pM eM sM mM aM bM methM cM H locs ls hx hb hr hts hown hlocks hml hout hE hG hl
  have hl : lv_has ls 3 [(0, .ref (ad 0)), (1, .int (zI zq))] := hl
  have hinX3 : ∀ w ∈ u_ws RX3 TX3 3, w ∈ wsX9_send := by decide +kernel
  have hinX4 : ∀ w ∈ u_ws RX4 TX4 10, w ∈ wsX9_send := by decide +kernel
  have hinX5 : ∀ w ∈ u_ws RX5 TX5 3, w ∈ wsX9_send := by decide +kernel
  have hinX7 : ∀ w ∈ u_ws RX7 TX7 2, w ∈ wsX9_send := by decide +kernel
  have hinX9 : ∀ w ∈ u_ws RX9 TX9 6, w ∈ wsX9_send := by decide +kernel
  have hC0 := hC
  rw [hnq] at hC
  obtain ⟨hct, hn, hT, hFs, hpr, hz, hU, hD, hso, hse, hli, hsy, hde, hcd, hok, hdv, hdr, hsn, hol, hln⟩ := id hC
  have hso2 := fun q => mSend_ok hT hpr hso q
  refine lv_iload_n hx hb dX9_send_0 rfl (lv_at hl 1 rfl) ?_
  refine lv_iconst (v := nI 1) hx hb dX9_send_1 (by decide) ?_
  refine lv_icmp_lt (tgt := 11) hx hb dX9_send_2 (by decide) (fun c2 => ?_) (fun c2 => ?_)
  · skip
    have c2 : zq < ((1 : Nat) : Int) := (cmp_lt (zI_toInt (by omega) (by omega)) (nI_toInt (by omega))).mp c2
    exact gx_throw (cls := "java/lang/IllegalArgumentException") (ik := 55) (ic := 57) hx hb hst hown (by decide +kernel) (hts (.classLink RX9 55 "java/lang/IllegalArgumentException") (List.mem_of_getElem? (i := 1) rfl)) (hts (.initialized "java/lang/IllegalArgumentException") (List.mem_of_getElem? (i := 2) rfl)) (vxg_IA (fun w9 h9 => hts w9 (List.mem_cons_of_mem _ (List.mem_append_left _ (List.mem_append_right _ h9))))) vxo_IA hE hG (hl.1.trans hml.symm) dX9_send_11 dX9_send_14 dX9_send_15 dX9_send_18 hout (Nat.le_of_ble_eq_true rfl) (Nat.le_of_ble_eq_true rfl) (Nat.le_of_ble_eq_true rfl) (Nat.le_of_ble_eq_true rfl) hlocks (Or.inl ⟨rfl, rfl, rfl, (by first | assumption | omega)⟩) (Nat.le_of_ble_eq_true rfl) (Nat.le_of_ble_eq_true rfl)
  · skip
    have c2 : ¬ (zq < ((1 : Nat) : Int)) := fun z9 => c2 ((cmp_lt (zI_toInt (by omega) (by omega)) (nI_toInt (by omega))).mpr z9)
    refine lv_iload_n hx hb dX9_send_5 rfl (lv_at hl 1 rfl) ?_
    refine lv_bipush (v := nI 64) hx hb dX9_send_6 (by decide) ?_
    refine lv_icmp_le (tgt := 19) hx hb dX9_send_8 (by decide) (fun c8 => ?_) (fun c8 => ?_)
    · skip
      have c8 : zq ≤ ((64 : Nat) : Int) := (cmp_le (zI_toInt (by omega) (by omega)) (nI_toInt (by omega))).mp c8
      refine lv_aload_n hx hb dX9_send_19 rfl (lv_at hl 0 rfl) ?_
      refine g_get (C := RX9) (T := TX9) (NN := 6) (ci := 9) hx hb hts hinX9 hown hE hG (k := 0) (by omega) rfl rfl 2 (by decide) (hts (.fieldLink RX9 26 "Commutator" "sender" "LCommutator$Sender;") (List.mem_of_getElem? (i := 5) rfl)) rfl (v := .ref (ad 6)) rfl dX9_send_20 ?_
      refine g_getN (C := RX7) (T := TX7) (NN := 2) (ci := 7) hx hb hts hinX7 hown hE hG (k := 6) (by omega) rfl rfl 0 (by decide) 6 rfl rfl (v := .int (A 6 0)) rfl dX9_send_23 ?_
      refine g_top (y := zI (G 28 9)) (hse.1) ?_
      refine lv_iload_n hx hb dX9_send_26 rfl (lv_at hl 1 rfl) ?_
      refine lv_iadd hx hb dX9_send_27 ?_
      refine g_top (y := zI ((G 28 9) + zq)) (zI_add _ _) ?_
      refine lv_sipush (v := nI 1000) hx hb dX9_send_28 (by decide) ?_
      refine lv_icmp_le (tgt := 42) hx hb dX9_send_31 (by decide) (fun c31 => ?_) (fun c31 => ?_)
      · skip
        have c31 : ((G 28 9) + zq) ≤ ((1000 : Nat) : Int) := (cmp_le (zI_toInt (by omega) (by omega)) (nI_toInt (by omega))).mp c31
        refine lv_iconst (v := nI 0) hx hb dX9_send_42 (by decide) ?_
        refine lv_istore_n (lv' := [(2, .int (nI 0)), (0, .ref (ad 0)), (1, .int (zI zq))]) hx hb dX9_send_43 rfl hl (by decide) rfl (fun ls hl => ?_)
        have LLq44 : ∀ (fuel : Nat) (kq : Nat) (Aq : Nat → Nat → Int32) (Jq : Nat → Nat → Int64) (hk : (kq : Int) ≤ zq) (hCq : CAll n Aq Jq (mSend G kq)) (hOq : ∀ k, 28 ≤ k → k < 33 → Aq k = A k) (hJq9 : ∀ k, 28 ≤ k → Jq k = J k) (_ : (zq.toNat - kq) < fuel) (H : Heap) (locs : List Loc) (ls : Array Slot), gH D base sM ad (33 + 2 * n) (gw cy ad n Aq Jq) H locs → lv_has ls 3 [(0, .ref (ad 0)), (1, .int (zI zq)), (2, .int (nI kq))] → W pM l eM ({ frames := 6, cells := 1, slots := 6, locals := 100 } : Room) sM mM aM bM methM cM H locs 0 0 (vx_MQ bM (gPost D cy base ad n (PX9_send ad A J G nq zq)) (gXC D cy base ad n (EX9_send ad A J G nq zq)) aM sM 1 6 (fun q => base ≤ q)) (F0 mM 44 ls []) := by
          intro fuel
          induction fuel with
          | zero => intro kq Aq Jq hk hCq hOq hJq9 hms H locs ls hG hl; exact absurd hms (Nat.not_lt_zero _)
          | succ fuel ihq44 =>
            intro kq Aq Jq hk hCq hOq hJq9 hms H locs ls hG hl
            obtain ⟨qct, qn, qT, qFs, qpr, qz, qU, qD, qso, qse, qli, qsy, qde, qcd, qok, qdv, qdr, qsn, qol, qln⟩ := id hCq
            have q9 := (hso2 kq).2.2.2.1
            have q10 := (hso2 kq).2.2.2.2
            have q12 := mSend_12 G kq
            have qt := qok.2.2.1
            refine lv_iload_n hx hb dX9_send_44 rfl (lv_at hl 2 rfl) ?_
            refine lv_iload_n hx hb dX9_send_45 rfl (lv_at hl 1 rfl) ?_
            refine lv_icmp_ge (tgt := 70) hx hb dX9_send_46 (by decide) (fun c46 => ?_) (fun c46 => ?_)
            · skip
              have c46 : zq ≤ ((kq : Nat) : Int) := (cmp_le (zI_toInt (by omega) (by omega)) (nI_toInt (by omega))).mp c46
              refine lv_aload_n hx hb dX9_send_70 rfl (lv_at hl 0 rfl) ?_
              refine g_get (C := RX9) (T := TX9) (NN := 6) (ci := 9) hx hb hts hinX9 hown hE hG (k := 0) (by omega) rfl rfl 1 (by decide) (hts (.fieldLink RX9 19 "Commutator" "line" "LCommutator$Line;") (List.mem_of_getElem? (i := 7) rfl)) rfl (v := .ref (ad 4)) rfl dX9_send_71 ?_
              refine g_callV (As := []) (rest := []) (r := (RX3, TX3, 3)) ⟨hx, hb, hml, hown, hts⟩ hE hG (cX3_lengthC l D cy base ad n Aq Jq ((mSend G kq 28 12).toNat) ((mSend G kq 28 12).toNat + (mSend G kq 28 10).toNat) qli.1 qli.2.1 (by omega) (by omega)) (cwV 0 hts gX9_send_X3_length rfl rfl rfl (by decide +kernel) ⟨Nat.le_of_ble_eq_true rfl, Nat.le_of_ble_eq_true rfl⟩) (by omega) rfl rfl rfl hl.1 rfl (Nat.le_of_ble_eq_true rfl) dX9_send_74 ⟨(Nat.le_of_ble_eq_true rfl), (Nat.le_of_ble_eq_true rfl)⟩ (fun v_ A74 J74 H locs hp hG => ?_)
              obtain ⟨rfl, rfl, rfl⟩ := hp
              refine W.eq (g2 := F0 mM 77 ls [.int (nI (((mSend G kq 28 12).toNat + (mSend G kq 28 10).toNat) - ((mSend G kq 28 12).toNat)))]) rfl ?_
              exact gx_iret hx hb hr hlocks hG (Nat.le_of_ble_eq_true rfl) (Nat.le_of_ble_eq_true rfl) ⟨(by rw [zI_nat (by omega)]; congr 3; omega), by omega, (by rw [hnq, show zq.toNat = kq from by omega]; exact hCq), hOq, hJq9⟩ dX9_send_77
            · skip
              have c46 : ¬ (zq ≤ ((kq : Nat) : Int)) := fun z9 => c46 ((cmp_le (zI_toInt (by omega) (by omega)) (nI_toInt (by omega))).mpr z9)
              refine lv_aload_n hx hb dX9_send_49 rfl (lv_at hl 0 rfl) ?_
              refine g_get (C := RX9) (T := TX9) (NN := 6) (ci := 9) hx hb hts hinX9 hown hE hG (k := 0) (by omega) rfl rfl 2 (by decide) (hts (.fieldLink RX9 26 "Commutator" "sender" "LCommutator$Sender;") (List.mem_of_getElem? (i := 5) rfl)) rfl (v := .ref (ad 6)) rfl dX9_send_50 ?_
              refine lv_aload_n hx hb dX9_send_53 rfl (lv_at hl 0 rfl) ?_
              refine g_get (C := RX9) (T := TX9) (NN := 6) (ci := 9) hx hb hts hinX9 hown hE hG (k := 0) (by omega) rfl rfl 0 (by decide) (hts (.fieldLink RX9 10 "Commutator" "table" "LCommutator$PointTable;") (List.mem_of_getElem? (i := 6) rfl)) rfl (v := .ref (ad 1)) rfl dX9_send_54 ?_
              refine lv_aload_n hx hb dX9_send_57 rfl (lv_at hl 0 rfl) ?_
              refine g_get (C := RX9) (T := TX9) (NN := 6) (ci := 9) hx hb hts hinX9 hown hE hG (k := 0) (by omega) rfl rfl 1 (by decide) (hts (.fieldLink RX9 19 "Commutator" "line" "LCommutator$Line;") (List.mem_of_getElem? (i := 7) rfl)) rfl (v := .ref (ad 4)) rfl dX9_send_58 ?_
              refine g_callV (As := [.ref (ad 1), .ref (ad 4)]) (rest := []) (r := (RX7, TX7, 2)) ⟨hx, hb, hml, hown, hts⟩ hE hG (cX7_sendWordC l D cy base ad n Aq Jq (mSend G kq) ((mSend G kq 28 12).toNat) qct qn qT qFs qpr qse qli qD (by omega) (by omega)) (cwV 2 hts gX9_send_X7_sendWord rfl rfl rfl (by decide +kernel) ⟨Nat.le_of_ble_eq_true rfl, Nat.le_of_ble_eq_true rfl⟩) (by omega) rfl rfl rfl hl.1 rfl (Nat.le_of_ble_eq_true rfl) dX9_send_61 ⟨(Nat.le_of_ble_eq_true rfl), (Nat.le_of_ble_eq_true rfl)⟩ (fun v_ A61 J61 H locs hp hG => ?_)
              obtain ⟨rfl, hse1_61, hli1_61, hO1_61, hJO_61⟩ := hp
              refine W.eq (g2 := F0 mM 64 ls []) rfl ?_
              refine lv_iinc (v := nI (kq + 1)) (lv' := [(2, .int (nI (kq + 1))), (0, .ref (ad 0)), (1, .int (zI zq))]) hx hb dX9_send_64 hl (k := 2) rfl (by rw [show (Int32.ofInt 1 : Int32) = nI 1 from rfl, nI_add]) (by decide) rfl (fun ls hl => ?_)
              refine lv_goto (tgt := 44) hx hb dX9_send_67 (by decide) ?_
              exact ihq44 (kq + 1) A61 J61 (by omega) (hCq.sw (by omega) hO1_61 hJO_61 hse1_61 hli1_61) (fun k a b => (hO1_61 k (by omega) (by omega) (by omega)).trans (hOq k a b)) (fun k a => (funext fun j => hJO_61 k j (by omega)).trans (hJq9 k a)) (by omega) _ _ _ hG (lv_sub hl [1, 2, 0] rfl)
        exact LLq44 _ 0 A J (by omega) hC (fun _ _ _ => rfl) (fun _ _ => rfl) (Nat.lt_succ_self _) _ _ _ hG (lv_sub hl [1, 2, 0] rfl)
      · skip
        have c31 : ¬ (((G 28 9) + zq) ≤ ((1000 : Nat) : Int)) := fun z9 => c31 ((cmp_le (zI_toInt (by omega) (by omega)) (nI_toInt (by omega))).mpr z9)
        exact gx_throw (cls := "java/lang/IllegalStateException") (ik := 65) (ic := 67) hx hb hst hown (by decide +kernel) (hts (.classLink RX9 65 "java/lang/IllegalStateException") (List.mem_of_getElem? (i := 3) rfl)) (hts (.initialized "java/lang/IllegalStateException") (List.mem_of_getElem? (i := 4) rfl)) (vxg_IS (fun w9 h9 => hts w9 (List.mem_cons_of_mem _ (List.mem_append_right _ h9)))) vxo_IS hE hG (hl.1.trans hml.symm) dX9_send_34 dX9_send_37 dX9_send_38 dX9_send_41 hout (Nat.le_of_ble_eq_true rfl) (Nat.le_of_ble_eq_true rfl) (Nat.le_of_ble_eq_true rfl) (Nat.le_of_ble_eq_true rfl) hlocks (Or.inr ⟨rfl, rfl, rfl, (by first | assumption | omega)⟩) (Nat.le_of_ble_eq_true rfl) (Nat.le_of_ble_eq_true rfl)
    · skip
      have c8 : ¬ (zq ≤ ((64 : Nat) : Int)) := fun z9 => c8 ((cmp_le (zI_toInt (by omega) (by omega)) (nI_toInt (by omega))).mpr z9)
      exact gx_throw (cls := "java/lang/IllegalArgumentException") (ik := 55) (ic := 57) hx hb hst hown (by decide +kernel) (hts (.classLink RX9 55 "java/lang/IllegalArgumentException") (List.mem_of_getElem? (i := 1) rfl)) (hts (.initialized "java/lang/IllegalArgumentException") (List.mem_of_getElem? (i := 2) rfl)) (vxg_IA (fun w9 h9 => hts w9 (List.mem_cons_of_mem _ (List.mem_append_left _ (List.mem_append_right _ h9))))) vxo_IA hE hG (hl.1.trans hml.symm) dX9_send_11 dX9_send_14 dX9_send_15 dX9_send_18 hout (Nat.le_of_ble_eq_true rfl) (Nat.le_of_ble_eq_true rfl) (Nat.le_of_ble_eq_true rfl) (Nat.le_of_ble_eq_true rfl) hlocks (Or.inl ⟨rfl, rfl, rfl, (by first | assumption | omega)⟩) (Nat.le_of_ble_eq_true rfl) (Nat.le_of_ble_eq_true rfl)
