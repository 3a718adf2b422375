abbrev PX10_put (ad : Nat → Nat) (A : Nat → Nat → Int32) (J : Nat → Nat → Int64) (G : Nat → Nat → Int) (x v : Int32) : Option Value → (Nat → Nat → Int32) → (Nat → Nat → Int64) → Prop := fun v_ A1 J1 => (v_ = some (.int (nI 0)) ∧ gu A 28 34 (nI 1) = A1 ∧ J = J1 ∧ (¬ (0 ≤ x.toInt ∧ x.toInt < G 28 0))) ∨ (∃ (jq : Nat), v_ = some (.int (nI 0)) ∧ gu (gu A 28 34 (nI 0)) 28 34 (nI 2) = A1 ∧ J = J1 ∧ (x = nI jq) ∧ ((jq : Int) < G 28 0) ∧ (¬ (gLo (G 30 jq) (G 29 jq) ≤ v.toInt ∧ v.toInt ≤ gHi (G 30 jq) (G 29 jq)))) ∨ (∃ (jq : Nat), v_ = some (.int (zI (G 35 jq))) ∧ gu (gu (gu A 28 34 (nI 0)) 28 34 (nI 0)) 35 jq v = A1 ∧ J = J1 ∧ (x = nI jq) ∧ ((jq : Int) < G 28 0) ∧ (gLo (G 30 jq) (G 29 jq) ≤ v.toInt ∧ v.toInt ≤ gHi (G 30 jq) (G 29 jq)))
set_option maxHeartbeats 4000000 in
set_option maxRecDepth 100000 in
theorem cX10_putC (l : Launch) (D : va_G) (cy : Nat → ClassId) (base : Nat) (ad : Nat → Nat) (n : Nat) (A : Nat → Nat → Int32) (J : Nat → Nat → Int64) (G : Nat → Nat → Int) (x v : Int32) (hM : MRep A G) (hT : TsOk G) : gMet l yX10_put wsX10_put ({ frames := 2, cells := 0, slots := 0, locals := 43 } : Room) D cy base ad n A J [.ref (ad 28), .int x, .int v] (PX10_put ad A J G x v) := by
  refine g_ofW (cc := cX10_put) (maxL := 7) (ret := (some .int)) (by decide) rfl (Nat.le_of_ble_eq_true rfl) ?_
  intro pM eM sM mM aM bM methM cM H locs ls hx hb hr hts hown hlocks hml hE hG hl
  have hl : lv_has ls 7 [(0, .ref (ad 28)), (1, .int x), (2, .int v)] := hl
  have hinX10 : ∀ w ∈ u_ws RX10 TX10 35, w ∈ wsX10_put := by decide +kernel
  refine lv_aload_n hx hb dX10_put_0 rfl (lv_at hl 0 rfl) ?_
  refine lv_aload_n hx hb dX10_put_1 rfl (lv_at hl 0 rfl) ?_
  refine lv_iload_n hx hb dX10_put_2 rfl (lv_at hl 1 rfl) ?_
  refine g_callV (As := [.int x]) (rest := [.ref (ad 28)]) (r := (RX10, TX10, 35)) ⟨hx, hb, hml, hown, hts⟩ hE hG (cX10_isPointC l D cy base ad n A J G x (by first | exact hM | exact hM.st | exact hM.pa | exact hM.th _ | exact (hM.th _).st | exact (hM.th _).pa | exact (hM.th _).th _ | exact ((hM.th _).th _).st) ⟨hT.1, hT.2.1⟩) (cwV 1 hts gX10_put_X10_isPoint rfl rfl rfl (by decide +kernel) ⟨Nat.le_of_ble_eq_true rfl, Nat.le_of_ble_eq_true rfl⟩) (by omega) rfl rfl rfl hl.1 rfl (Nat.le_of_ble_eq_true rfl) dX10_put_3 ⟨Nat.zero_le _, Nat.zero_le _⟩ (fun v_ A3 J3 H locs hp hG => ?_)
  rcases hp with ⟨rfl, rfl, rfl, hC_3⟩ | ⟨rfl, rfl, rfl, hC_3⟩
  · refine W.eq (g2 := F0 mM 6 ls [.int (nI 1), .ref (ad 28)]) rfl ?_
    obtain ⟨jq, hjq, rfl⟩ := z_nat (x := x) (by omega)
    have hjqt : (nI jq).toInt = (jq : Int) := nI_toInt hjq
    have hTj := hT.2.2 jq (by omega)
    have hhf := gHf_range (w := G 29 jq) (by omega) (by omega)
    have hlo := gLo_range (cv := G 30 jq) (w := G 29 jq) (by omega) (by omega)
    have hhi := gHi_range (cv := G 30 jq) (w := G 29 jq) (by omega) (by omega)
    refine lv_if_eq (tgt := 13) hx hb dX10_put_6 (by decide) (fun c6 => ?_) (fun c6 => ?_)
    · skip
      exact absurd c6 (by decide)
    · skip
      refine lv_iconst (v := nI 0) hx hb dX10_put_9 (by decide) ?_
      refine lv_goto (tgt := 14) hx hb dX10_put_10 (by decide) ?_
      refine g_callV (As := [.int (nI 0)]) (rest := []) (r := (RX10, TX10, 35)) ⟨hx, hb, hml, hown, hts⟩ hE hG (cX10_canC l D cy base ad n A J 0 (by first | assumption | omega)) (cwV 1 hts gX10_put_X10_can rfl rfl rfl (by decide +kernel) ⟨Nat.le_of_ble_eq_true rfl, Nat.le_of_ble_eq_true rfl⟩) (by omega) rfl rfl rfl hl.1 rfl (Nat.le_of_ble_eq_true rfl) dX10_put_14 ⟨Nat.zero_le _, Nat.zero_le _⟩ (fun v_ A14 J14 H locs hp hG => ?_)
      rcases hp with ⟨rfl, rfl, rfl, hC_14⟩ | ⟨rfl, rfl, rfl, hC_14⟩
      · refine W.eq (g2 := F0 mM 17 ls [.int (nI 1)]) rfl ?_
        refine lv_if_ne (tgt := 22) hx hb dX10_put_17 (by decide) (fun c17 => ?_) (fun c17 => ?_)
        · skip
          refine lv_iconst (v := nI 1) hx hb dX10_put_22 (by decide) ?_
          refine lv_aload_n hx hb dX10_put_23 rfl (lv_at hl 0 rfl) ?_
          refine g_get (C := RX10) (T := TX10) (NN := 35) (ci := 10) hx hb hts hinX10 hown hE hG (k := 28) (by omega) rfl rfl 1 (by decide) (hts (.fieldLink RX10 7 "CommutatorModel" "width" "[I") (List.mem_of_getElem? (i := 1) rfl)) rfl (v := .ref (ad 29)) rfl dX10_put_24 ?_
          refine lv_iload_n hx hb dX10_put_27 rfl (lv_at hl 1 rfl) ?_
          refine g_iald hx hb hE hG (k := 29) (by omega) rfl jq (rfl) (by omega) (by omega) dX10_put_28 ?_
          refine g_top (y := A 29 jq) (by first | rfl | (simp [gu_at]; done) | (rw [gu_at]; simp; omega)) ?_
          refine g_top (y := zI (G 29 jq)) (hM 29 jq (by omega) (by omega) (by omega)) ?_
          refine lv_iconst (v := nI 1) hx hb dX10_put_29 (by decide) ?_
          refine lv_isub hx hb dX10_put_30 ?_
          refine g_top (y := zI ((G 29 jq) - 1)) (zI_sub_in _ _) ?_
          refine lv_ishl hx hb dX10_put_31 ?_
          refine g_top (y := zI (gHf (G 29 jq))) (shl_hf (by omega) (by omega)) ?_
          refine lv_istore_n (lv' := [(3, .int (zI (gHf (G 29 jq)))), (0, .ref (ad 28)), (1, .int (nI jq)), (2, .int v)]) hx hb dX10_put_32 rfl hl (by decide) rfl (fun ls hl => ?_)
          have LLq64 : ∀  (lq : Int) (hlq : lq = gLo (G 30 jq) (G 29 jq)) (H : Heap) (locs : List Loc) (ls : Array Slot), gH D base sM ad (50 + 2 * n) (gw cy ad n (gu A 28 34 (nI 0)) J) H locs → lv_has ls 7 [(3, .int (zI (gHf (G 29 jq)))), (0, .ref (ad 28)), (1, .int (nI jq)), (2, .int v)] → W pM l eM ({ frames := 2, cells := 0, slots := 0, locals := 43 } : Room) sM mM aM bM methM cM H locs 0 0 (MQ bM (gPost D cy base ad n (PX10_put ad A J G (nI jq) v)) aM sM 0 0 (fun q => base ≤ q)) (F0 mM 64 ls [.int (zI lq)]) := by
            intro lq hlq H locs ls hG hl
            subst hlq
            refine lv_istore (lv' := [(4, .int (zI (gLo (G 30 jq) (G 29 jq)))), (3, .int (zI (gHf (G 29 jq)))), (0, .ref (ad 28)), (1, .int (nI jq)), (2, .int v)]) hx hb dX10_put_64 hl (by decide) rfl (fun ls hl => ?_)
            have LLq86 : ∀  (hq : Int) (hhq : hq = gHi (G 30 jq) (G 29 jq)) (H : Heap) (locs : List Loc) (ls : Array Slot), gH D base sM ad (50 + 2 * n) (gw cy ad n (gu A 28 34 (nI 0)) J) H locs → lv_has ls 7 [(4, .int (zI (gLo (G 30 jq) (G 29 jq)))), (3, .int (zI (gHf (G 29 jq)))), (0, .ref (ad 28)), (1, .int (nI jq)), (2, .int v)] → W pM l eM ({ frames := 2, cells := 0, slots := 0, locals := 43 } : Room) sM mM aM bM methM cM H locs 0 0 (MQ bM (gPost D cy base ad n (PX10_put ad A J G (nI jq) v)) aM sM 0 0 (fun q => base ≤ q)) (F0 mM 86 ls [.int (zI hq)]) := by
              intro hq hhq H locs ls hG hl
              subst hhq
              refine lv_istore (lv' := [(5, .int (zI (gHi (G 30 jq) (G 29 jq)))), (4, .int (zI (gLo (G 30 jq) (G 29 jq)))), (3, .int (zI (gHf (G 29 jq)))), (0, .ref (ad 28)), (1, .int (nI jq)), (2, .int v)]) hx hb dX10_put_86 hl (by decide) rfl (fun ls hl => ?_)
              refine lv_aload_n hx hb dX10_put_88 rfl (lv_at hl 3 rfl) ?_
              refine lv_iload_n hx hb dX10_put_89 rfl (lv_at hl 5 rfl) ?_
              refine lv_iload hx hb dX10_put_90 (lv_at hl 1 rfl) ?_
              refine lv_iload hx hb dX10_put_92 (lv_at hl 0 rfl) ?_
              refine g_callS (As := [.int v, .int (zI (gLo (G 30 jq) (G 29 jq))), .int (zI (gHi (G 30 jq) (G 29 jq)))]) (rest := [.ref (ad 28)]) ⟨hx, hb, hml, hown, hts⟩ hE hG (cX10_isInC l D cy base ad n (gu A 28 34 (nI 0)) J v (gLo (G 30 jq) (G 29 jq)) (gHi (G 30 jq) (G 29 jq)) (by first | assumption | omega) (by first | assumption | omega) (by first | assumption | omega) (by first | assumption | omega)) (va_cwS 3 hts gX10_put_X10_isIn rfl rfl rfl (by decide +kernel) ⟨Nat.le_of_ble_eq_true rfl, Nat.le_of_ble_eq_true rfl⟩) rfl hl.1 rfl (Nat.le_of_ble_eq_true rfl) dX10_put_94 ⟨Nat.zero_le _, Nat.zero_le _⟩ (fun v_ A94 J94 H locs hp hG => ?_)
              rcases hp with ⟨rfl, rfl, rfl, hC_94⟩ | ⟨rfl, rfl, rfl, hC_94⟩
              · refine W.eq (g2 := F0 mM 97 ls [.int (nI 1), .ref (ad 28)]) rfl ?_
                refine lv_if_eq (tgt := 104) hx hb dX10_put_97 (by decide) (fun c97 => ?_) (fun c97 => ?_)
                · skip
                  exact absurd c97 (by decide)
                · skip
                  refine lv_iconst (v := nI 0) hx hb dX10_put_100 (by decide) ?_
                  refine lv_goto (tgt := 105) hx hb dX10_put_101 (by decide) ?_
                  refine g_callV (As := [.int (nI 0)]) (rest := []) (r := (RX10, TX10, 35)) ⟨hx, hb, hml, hown, hts⟩ hE hG (cX10_canC l D cy base ad n (gu A 28 34 (nI 0)) J 0 (by first | assumption | omega)) (cwV 1 hts gX10_put_X10_can rfl rfl rfl (by decide +kernel) ⟨Nat.le_of_ble_eq_true rfl, Nat.le_of_ble_eq_true rfl⟩) (by omega) rfl rfl rfl hl.1 rfl (Nat.le_of_ble_eq_true rfl) dX10_put_105 ⟨Nat.zero_le _, Nat.zero_le _⟩ (fun v_ A105 J105 H locs hp hG => ?_)
                  rcases hp with ⟨rfl, rfl, rfl, hC_105⟩ | ⟨rfl, rfl, rfl, hC_105⟩
                  · refine W.eq (g2 := F0 mM 108 ls [.int (nI 1)]) rfl ?_
                    refine lv_if_ne (tgt := 113) hx hb dX10_put_108 (by decide) (fun c108 => ?_) (fun c108 => ?_)
                    · skip
                      refine lv_aload_n hx hb dX10_put_113 rfl (lv_at hl 3 rfl) ?_
                      refine g_get (C := RX10) (T := TX10) (NN := 35) (ci := 10) hx hb hts hinX10 hown hE hG (k := 28) (by omega) rfl rfl 7 (by decide) (hts (.fieldLink RX10 28 "CommutatorModel" "present" "[I") (List.mem_of_getElem? (i := 3) rfl)) rfl (v := .ref (ad 35)) rfl dX10_put_114 ?_
                      refine lv_iload_n hx hb dX10_put_117 rfl (lv_at hl 4 rfl) ?_
                      refine g_iald hx hb hE hG (k := 35) (by omega) rfl jq (rfl) (by omega) (by omega) dX10_put_118 ?_
                      refine g_top (y := A 35 jq) (by first | rfl | (simp [gu_at]; done) | (rw [gu_at]; simp; omega)) ?_
                      refine g_top (y := zI (G 35 jq)) (hM 35 jq (by omega) (by omega) (by omega)) ?_
                      refine lv_istore (lv' := [(6, .int (zI (G 35 jq))), (5, .int (zI (gHi (G 30 jq) (G 29 jq)))), (4, .int (zI (gLo (G 30 jq) (G 29 jq)))), (3, .int (zI (gHf (G 29 jq)))), (0, .ref (ad 28)), (1, .int (nI jq)), (2, .int v)]) hx hb dX10_put_119 hl (by decide) rfl (fun ls hl => ?_)
                      refine lv_aload_n hx hb dX10_put_121 rfl (lv_at hl 4 rfl) ?_
                      refine g_get (C := RX10) (T := TX10) (NN := 35) (ci := 10) hx hb hts hinX10 hown hE hG (k := 28) (by omega) rfl rfl 7 (by decide) (hts (.fieldLink RX10 28 "CommutatorModel" "present" "[I") (List.mem_of_getElem? (i := 3) rfl)) rfl (v := .ref (ad 35)) rfl dX10_put_122 ?_
                      refine lv_iload_n hx hb dX10_put_125 rfl (lv_at hl 5 rfl) ?_
                      refine lv_iload_n hx hb dX10_put_126 rfl (lv_at hl 6 rfl) ?_
                      refine g_iast hx hb hE hG (k := 35) (by omega) (fun _ => rfl) jq (rfl) (by omega) (by omega) dX10_put_127 (fun H locs hG => ?_)
                      refine lv_iload hx hb dX10_put_128 (lv_at hl 0 rfl) ?_
                      exact g_iret hx hb hr hlocks hG (by first | exact Or.inl ⟨rfl, rfl, rfl, (by first | omega | rfl | assumption)⟩ | exact Or.inr (Or.inl ⟨_, rfl, rfl, rfl, (by first | omega | rfl | assumption), (by first | omega | rfl | assumption), (by first | omega | rfl | assumption)⟩) | exact Or.inr (Or.inr (⟨_, rfl, rfl, rfl, (by first | omega | rfl | assumption), (by first | omega | rfl | assumption), (by first | omega | rfl | assumption)⟩))) dX10_put_130
                    · skip
                      exact absurd c108 (by decide)
                  · exact absurd hC_105 (by decide)
              · refine W.eq (g2 := F0 mM 97 ls [.int (nI 0), .ref (ad 28)]) rfl ?_
                refine lv_if_eq (tgt := 104) hx hb dX10_put_97 (by decide) (fun c97 => ?_) (fun c97 => ?_)
                · skip
                  refine lv_iconst (v := nI 2) hx hb dX10_put_104 (by decide) ?_
                  refine g_callV (As := [.int (nI 2)]) (rest := []) (r := (RX10, TX10, 35)) ⟨hx, hb, hml, hown, hts⟩ hE hG (cX10_canC l D cy base ad n (gu A 28 34 (nI 0)) J 2 (by first | assumption | omega)) (cwV 1 hts gX10_put_X10_can rfl rfl rfl (by decide +kernel) ⟨Nat.le_of_ble_eq_true rfl, Nat.le_of_ble_eq_true rfl⟩) (by omega) rfl rfl rfl hl.1 rfl (Nat.le_of_ble_eq_true rfl) dX10_put_105 ⟨Nat.zero_le _, Nat.zero_le _⟩ (fun v_ A105 J105 H locs hp hG => ?_)
                  rcases hp with ⟨rfl, rfl, rfl, hC_105⟩ | ⟨rfl, rfl, rfl, hC_105⟩
                  · exact absurd hC_105 (by decide)
                  · refine W.eq (g2 := F0 mM 108 ls [.int (nI 0)]) rfl ?_
                    refine lv_if_ne (tgt := 113) hx hb dX10_put_108 (by decide) (fun c108 => ?_) (fun c108 => ?_)
                    · skip
                      exact absurd c108 (by decide)
                    · skip
                      refine lv_iconst (v := nI 0) hx hb dX10_put_111 (by decide) ?_
                      exact g_iret hx hb hr hlocks hG (by first | exact Or.inl ⟨rfl, rfl, rfl, (by first | omega | rfl | assumption)⟩ | exact Or.inr (Or.inl ⟨_, rfl, rfl, rfl, (by first | omega | rfl | assumption), (by first | omega | rfl | assumption), (by first | omega | rfl | assumption)⟩) | exact Or.inr (Or.inr (⟨_, rfl, rfl, rfl, (by first | omega | rfl | assumption), (by first | omega | rfl | assumption), (by first | omega | rfl | assumption)⟩))) dX10_put_112
                · skip
                  exact absurd c97 (by decide)
            refine lv_aload_n hx hb dX10_put_66 rfl (lv_at hl 2 rfl) ?_
            refine g_get (C := RX10) (T := TX10) (NN := 35) (ci := 10) hx hb hts hinX10 hown hE hG (k := 28) (by omega) rfl rfl 2 (by decide) (hts (.fieldLink RX10 13 "CommutatorModel" "convention" "[I") (List.mem_of_getElem? (i := 2) rfl)) rfl (v := .ref (ad 30)) rfl dX10_put_67 ?_
            refine lv_iload_n hx hb dX10_put_70 rfl (lv_at hl 3 rfl) ?_
            refine g_iald hx hb hE hG (k := 30) (by omega) rfl jq (rfl) (by omega) (by omega) dX10_put_71 ?_
            refine g_top (y := A 30 jq) (by first | rfl | (simp [gu_at]; done) | (rw [gu_at]; simp; omega)) ?_
            refine g_top (y := zI (G 30 jq)) (hM 30 jq (by omega) (by omega) (by omega)) ?_
            refine lv_if_ne (tgt := 83) hx hb dX10_put_72 (by decide) (fun c72 => ?_) (fun c72 => ?_)
            · skip
              have c72 : ¬ ((zI (G 30 jq)) = nI 0) := c72
              have c72 : ¬ ((G 30 jq) = ((0 : Nat) : Int)) := fun z9 => c72 ((cmp_eq (zI_toInt (by omega) (by omega)) (nI_toInt (by omega))).mpr z9)
              refine lv_iload_n hx hb dX10_put_83 rfl (lv_at hl 1 rfl) ?_
              refine lv_iconst (v := nI 1) hx hb dX10_put_84 (by decide) ?_
              refine lv_isub hx hb dX10_put_85 ?_
              refine g_top (y := zI ((gHf (G 29 jq)) - 1)) (zI_sub_in _ _) ?_
              exact LLq86 ((gHf (G 29 jq)) - 1) (by simp only [gHi]; (repeat' split) <;> omega) _ _ _ hG (lv_sub hl [0, 1, 2, 3, 4] rfl)
            · skip
              have c72 : (zI (G 30 jq)) = nI 0 := c72
              have c72 : (G 30 jq) = ((0 : Nat) : Int) := (cmp_eq (zI_toInt (by omega) (by omega)) (nI_toInt (by omega))).mp c72
              refine lv_iconst (v := nI 2) hx hb dX10_put_75 (by decide) ?_
              refine lv_iload_n hx hb dX10_put_76 rfl (lv_at hl 1 rfl) ?_
              refine lv_imul hx hb dX10_put_77 ?_
              refine g_top (y := zI (2 * (gHf (G 29 jq)))) (zI_mul_ni _ _) ?_
              refine lv_iconst (v := nI 1) hx hb dX10_put_78 (by decide) ?_
              refine lv_isub hx hb dX10_put_79 ?_
              refine g_top (y := zI ((2 * (gHf (G 29 jq))) - 1)) (zI_sub_in _ _) ?_
              refine lv_goto (tgt := 86) hx hb dX10_put_80 (by decide) ?_
              exact LLq86 ((2 * (gHf (G 29 jq))) - 1) (by simp only [gHi]; (repeat' split) <;> omega) _ _ _ hG (lv_sub hl [0, 1, 2, 3, 4] rfl)
          refine lv_aload_n hx hb dX10_put_33 rfl (lv_at hl 1 rfl) ?_
          refine g_get (C := RX10) (T := TX10) (NN := 35) (ci := 10) hx hb hts hinX10 hown hE hG (k := 28) (by omega) rfl rfl 2 (by decide) (hts (.fieldLink RX10 13 "CommutatorModel" "convention" "[I") (List.mem_of_getElem? (i := 2) rfl)) rfl (v := .ref (ad 30)) rfl dX10_put_34 ?_
          refine lv_iload_n hx hb dX10_put_37 rfl (lv_at hl 2 rfl) ?_
          refine g_iald hx hb hE hG (k := 30) (by omega) rfl jq (rfl) (by omega) (by omega) dX10_put_38 ?_
          refine g_top (y := A 30 jq) (by first | rfl | (simp [gu_at]; done) | (rw [gu_at]; simp; omega)) ?_
          refine g_top (y := zI (G 30 jq)) (hM 30 jq (by omega) (by omega) (by omega)) ?_
          refine lv_if_ne (tgt := 46) hx hb dX10_put_39 (by decide) (fun c39 => ?_) (fun c39 => ?_)
          · skip
            have c39 : ¬ ((zI (G 30 jq)) = nI 0) := c39
            have c39 : ¬ ((G 30 jq) = ((0 : Nat) : Int)) := fun z9 => c39 ((cmp_eq (zI_toInt (by omega) (by omega)) (nI_toInt (by omega))).mpr z9)
            refine lv_aload_n hx hb dX10_put_46 rfl (lv_at hl 1 rfl) ?_
            refine g_get (C := RX10) (T := TX10) (NN := 35) (ci := 10) hx hb hts hinX10 hown hE hG (k := 28) (by omega) rfl rfl 2 (by decide) (hts (.fieldLink RX10 13 "CommutatorModel" "convention" "[I") (List.mem_of_getElem? (i := 2) rfl)) rfl (v := .ref (ad 30)) rfl dX10_put_47 ?_
            refine lv_iload_n hx hb dX10_put_50 rfl (lv_at hl 2 rfl) ?_
            refine g_iald hx hb hE hG (k := 30) (by omega) rfl jq (rfl) (by omega) (by omega) dX10_put_51 ?_
            refine g_top (y := A 30 jq) (by first | rfl | (simp [gu_at]; done) | (rw [gu_at]; simp; omega)) ?_
            refine g_top (y := zI (G 30 jq)) (hM 30 jq (by omega) (by omega) (by omega)) ?_
            refine lv_iconst (v := nI 2) hx hb dX10_put_52 (by decide) ?_
            refine lv_icmp_ne (tgt := 62) hx hb dX10_put_53 (by decide) (fun c53 => ?_) (fun c53 => ?_)
            · skip
              have c53 : ¬ ((G 30 jq) = ((2 : Nat) : Int)) := fun z9 => c53 ((cmp_eq (zI_toInt (by omega) (by omega)) (nI_toInt (by omega))).mpr z9)
              refine lv_iload_n hx hb dX10_put_62 rfl (lv_at hl 0 rfl) ?_
              refine lv_ineg hx hb dX10_put_63 ?_
              refine g_top (y := zI (-(gHf (G 29 jq)))) (zI_neg _) ?_
              exact LLq64 (-(gHf (G 29 jq))) (by simp only [gLo]; (repeat' split) <;> omega) _ _ _ hG (lv_sub hl [0, 1, 2, 3] rfl)
            · skip
              have c53 : (G 30 jq) = ((2 : Nat) : Int) := (cmp_eq (zI_toInt (by omega) (by omega)) (nI_toInt (by omega))).mp c53
              refine lv_iconst (v := nI 1) hx hb dX10_put_56 (by decide) ?_
              refine lv_iload_n hx hb dX10_put_57 rfl (lv_at hl 0 rfl) ?_
              refine lv_isub hx hb dX10_put_58 ?_
              refine g_top (y := zI (1 - (gHf (G 29 jq)))) (zI_sub_ni _ _) ?_
              refine lv_goto (tgt := 64) hx hb dX10_put_59 (by decide) ?_
              exact LLq64 (1 - (gHf (G 29 jq))) (by simp only [gLo]; (repeat' split) <;> omega) _ _ _ hG (lv_sub hl [0, 1, 2, 3] rfl)
          · skip
            have c39 : (zI (G 30 jq)) = nI 0 := c39
            have c39 : (G 30 jq) = ((0 : Nat) : Int) := (cmp_eq (zI_toInt (by omega) (by omega)) (nI_toInt (by omega))).mp c39
            refine lv_iconst (v := nI 0) hx hb dX10_put_42 (by decide) ?_
            refine lv_goto (tgt := 64) hx hb dX10_put_43 (by decide) ?_
            exact LLq64 0 (by simp only [gLo]; (repeat' split) <;> omega) _ _ _ hG (lv_sub hl [0, 1, 2, 3] rfl)
        · skip
          exact absurd c17 (by decide)
      · exact absurd hC_14 (by decide)
  · refine W.eq (g2 := F0 mM 6 ls [.int (nI 0), .ref (ad 28)]) rfl ?_
    refine lv_if_eq (tgt := 13) hx hb dX10_put_6 (by decide) (fun c6 => ?_) (fun c6 => ?_)
    · skip
      refine lv_iconst (v := nI 1) hx hb dX10_put_13 (by decide) ?_
      refine g_callV (As := [.int (nI 1)]) (rest := []) (r := (RX10, TX10, 35)) ⟨hx, hb, hml, hown, hts⟩ hE hG (cX10_canC l D cy base ad n A J 1 (by first | assumption | omega)) (cwV 1 hts gX10_put_X10_can rfl rfl rfl (by decide +kernel) ⟨Nat.le_of_ble_eq_true rfl, Nat.le_of_ble_eq_true rfl⟩) (by omega) rfl rfl rfl hl.1 rfl (Nat.le_of_ble_eq_true rfl) dX10_put_14 ⟨Nat.zero_le _, Nat.zero_le _⟩ (fun v_ A14 J14 H locs hp hG => ?_)
      rcases hp with ⟨rfl, rfl, rfl, hC_14⟩ | ⟨rfl, rfl, rfl, hC_14⟩
      · exact absurd hC_14 (by decide)
      · refine W.eq (g2 := F0 mM 17 ls [.int (nI 0)]) rfl ?_
        refine lv_if_ne (tgt := 22) hx hb dX10_put_17 (by decide) (fun c17 => ?_) (fun c17 => ?_)
        · skip
          exact absurd c17 (by decide)
        · skip
          refine lv_iconst (v := nI 0) hx hb dX10_put_20 (by decide) ?_
          exact g_iret hx hb hr hlocks hG (by first | exact Or.inl ⟨rfl, rfl, rfl, (by first | omega | rfl | assumption)⟩ | exact Or.inr (Or.inl ⟨_, rfl, rfl, rfl, (by first | omega | rfl | assumption), (by first | omega | rfl | assumption), (by first | omega | rfl | assumption)⟩) | exact Or.inr (Or.inr (⟨_, rfl, rfl, rfl, (by first | omega | rfl | assumption), (by first | omega | rfl | assumption), (by first | omega | rfl | assumption)⟩))) dX10_put_21
    · skip
      exact absurd c6 (by decide)

abbrev PX10_spare (ad : Nat → Nat) (A : Nat → Nat → Int32) (J : Nat → Nat → Int64) (G : Nat → Nat → Int) : Option Value → (Nat → Nat → Int32) → (Nat → Nat → Int64) → Prop := fun v_ A1 J1 => (v_ = some (.int (zI (mSpare G 192))) ∧ gu A 28 34 (nI 0) = A1 ∧ J = J1)
set_option maxHeartbeats 4000000 in
set_option maxRecDepth 100000 in
theorem cX10_spareC (l : Launch) (D : va_G) (cy : Nat → ClassId) (base : Nat) (ad : Nat → Nat) (n : Nat) (A : Nat → Nat → Int32) (J : Nat → Nat → Int64) (G : Nat → Nat → Int) (hM : MRep A G) (hT : TsOk G) : gMet l yX10_spare wsX10_spare ({ frames := 2, cells := 0, slots := 0, locals := 48 } : Room) D cy base ad n A J [.ref (ad 28)] (PX10_spare ad A J G) := by
  refine g_ofW (cc := cX10_spare) (maxL := 3) (ret := (some .int)) (by decide) rfl (Nat.le_of_ble_eq_true rfl) ?_
  intro pM eM sM mM aM bM methM cM H locs ls hx hb hr hts hown hlocks hml hE hG hl
  have hl : lv_has ls 3 [(0, .ref (ad 28))] := hl
  have hinX10 : ∀ w ∈ u_ws RX10 TX10 35, w ∈ wsX10_spare := by decide +kernel
  refine lv_aload_n hx hb dX10_spare_0 rfl (lv_at hl 0 rfl) ?_
  refine lv_iconst (v := nI 0) hx hb dX10_spare_1 (by decide) ?_
  refine g_puti (C := RX10) (T := TX10) (NN := 35) (ci := 10) hx hb hts hinX10 tyX10 tyX10_ok nmX10 hown hE hG (k := 28) (by omega) rfl rfl 34 (by decide) (hts (.fieldLink RX10 78 "CommutatorModel" "thrown" "I") (List.mem_of_getElem? (i := 1) rfl)) rfl rfl (ty := .int) (v := nI 0) (by decide +kernel) rfl rfl (Nat.le_of_ble_eq_true rfl) rfl dX10_spare_2 (fun H locs hG => ?_)
  refine lv_iconst (v := nI 0) hx hb dX10_spare_5 (by decide) ?_
  refine lv_istore_n (lv' := [(1, .int (nI 0)), (0, .ref (ad 28))]) hx hb dX10_spare_6 rfl hl (by decide) rfl (fun ls hl => ?_)
  refine lv_iconst (v := nI 0) hx hb dX10_spare_7 (by decide) ?_
  refine lv_istore_n (lv' := [(2, .int (nI 0)), (1, .int (nI 0)), (0, .ref (ad 28))]) hx hb dX10_spare_8 rfl hl (by decide) rfl (fun ls hl => ?_)
  have LLq9 : ∀ (fuel : Nat) (kq : Nat) (hk : kq ≤ 192) (_ : 192 - kq < fuel) (H : Heap) (locs : List Loc) (ls : Array Slot), gH D base sM ad (50 + 2 * n) (gw cy ad n (gu A 28 34 (nI 0)) J) H locs → lv_has ls 3 [(0, .ref (ad 28)), (1, .int (zI (mSpare G kq))), (2, .int (nI kq))] → W pM l eM ({ frames := 2, cells := 0, slots := 0, locals := 48 } : Room) sM mM aM bM methM cM H locs 0 0 (MQ bM (gPost D cy base ad n (PX10_spare ad A J G)) aM sM 0 0 (fun q => base ≤ q)) (F0 mM 9 ls []) := by
    intro fuel
    induction fuel with
    | zero => intro kq hk hms H locs ls hG hl; exact absurd hms (Nat.not_lt_zero _)
    | succ fuel ihq9 =>
      intro kq hk hms H locs ls hG hl
      refine lv_iload_n hx hb dX10_spare_9 rfl (lv_at hl 2 rfl) ?_
      refine lv_sipush (v := nI 192) hx hb dX10_spare_10 (by decide) ?_
      refine lv_icmp_ge (tgt := 46) hx hb dX10_spare_13 (by decide) (fun c13 => ?_) (fun c13 => ?_)
      · skip
        have c13 : 192 ≤ kq := (nI_leI (by omega) (by omega)).mp c13
        have hk9 : kq = 192 := by omega
        subst hk9
        refine lv_iload_n hx hb dX10_spare_46 rfl (lv_at hl 1 rfl) ?_
        exact g_iret hx hb hr hlocks hG ⟨rfl, rfl, rfl⟩ dX10_spare_47
      · skip
        have c13 : ¬ (192 ≤ kq) := fun z9 => c13 ((nI_leI (by omega) (by omega)).mpr z9)
        have hsr := mSpare_range G kq
        refine lv_iload_n hx hb dX10_spare_16 rfl (lv_at hl 1 rfl) ?_
        refine lv_aload_n hx hb dX10_spare_17 rfl (lv_at hl 0 rfl) ?_
        refine lv_iload_n hx hb dX10_spare_18 rfl (lv_at hl 2 rfl) ?_
        refine lv_bipush (v := nI 48) hx hb dX10_spare_19 (by decide) ?_
        refine lv_idiv hx hb dX10_spare_21 (by decide) ?_
        refine g_top (y := nI (kq / 48)) (pk_div (by omega) (by omega) (by omega)) ?_
        refine lv_iload_n hx hb dX10_spare_22 rfl (lv_at hl 2 rfl) ?_
        refine lv_bipush (v := nI 48) hx hb dX10_spare_23 (by decide) ?_
        refine lv_irem hx hb dX10_spare_25 (by decide) ?_
        refine g_top (y := nI (kq % 48)) (pk_rem (by omega) (by omega) (by omega)) ?_
        refine g_callV (As := [.int (nI (kq / 48)), .int (nI (kq % 48))]) (rest := [.int (zI (mSpare G kq))]) (r := (RX10, TX10, 35)) ⟨hx, hb, hml, hown, hts⟩ hE hG (cX10_userOfC l D cy base ad n (gu A 28 34 (nI 0)) J G ((kq / 48 : Nat) : Int) ((kq % 48 : Nat) : Int) (hM.th _).st (by first | assumption | omega) (by first | assumption | omega) (by first | assumption | omega) (by first | assumption | omega) (by first | assumption | omega)) (cwV 2 hts gX10_spare_X10_userOf rfl rfl rfl (by decide +kernel) ⟨Nat.le_of_ble_eq_true rfl, Nat.le_of_ble_eq_true rfl⟩) (by omega) rfl rfl rfl hl.1 rfl (Nat.le_of_ble_eq_true rfl) dX10_spare_26 ⟨Nat.zero_le _, Nat.zero_le _⟩ (fun v_ A26 J26 H locs hp hG => ?_)
        obtain ⟨rfl, rfl, rfl⟩ := hp
        refine W.eq (g2 := F0 mM 29 ls [.int (zI (mUser G ((kq / 48 : Nat) : Int) ((kq % 48 : Nat) : Int) (G 28 0).toNat)), .int (zI (mSpare G kq))]) rfl ?_
        have hur := mUser_range G ((kq / 48 : Nat) : Int) ((kq % 48 : Nat) : Int) (G 28 0).toNat
        refine lv_iconst (v := zI (-1)) hx hb dX10_spare_29 (by decide) ?_
        refine lv_icmp_ne (tgt := 37) hx hb dX10_spare_30 (by decide) (fun c30 => ?_) (fun c30 => ?_)
        · skip
          have c30 : ¬ ((mUser G ((kq / 48 : Nat) : Int) ((kq % 48 : Nat) : Int) (G 28 0).toNat) = (-1)) := fun z9 => c30 ((cmp_eq (zI_toInt (by omega) (by omega)) (zI_toInt (by omega) (by omega))).mpr z9)
          refine lv_iconst (v := nI 0) hx hb dX10_spare_37 (by decide) ?_
          refine lv_iadd hx hb dX10_spare_38 ?_
          refine g_top (y := zI ((mSpare G kq) + 0)) (zI_add_in _ _) ?_
          refine g_top (y := zI (mSpare G (kq + 1))) (by simp only [mSpare]; first | rw [if_pos (by omega)] | rw [if_neg (by omega)]) ?_
          refine lv_istore_n (lv' := [(1, .int (zI (mSpare G (kq + 1)))), (0, .ref (ad 28)), (2, .int (nI kq))]) hx hb dX10_spare_39 rfl hl (by decide) rfl (fun ls hl => ?_)
          refine lv_iinc (v := nI (kq + 1)) (lv' := [(2, .int (nI (kq + 1))), (1, .int (zI (mSpare G (kq + 1)))), (0, .ref (ad 28))]) hx hb dX10_spare_40 hl (k := 2) rfl (by rw [show (Int32.ofInt 1 : Int32) = nI 1 from rfl, nI_add]) (by decide) rfl (fun ls hl => ?_)
          refine lv_goto (tgt := 9) hx hb dX10_spare_43 (by decide) ?_
          exact ihq9 (kq + 1) (by omega) (by omega) _ _ _ hG (lv_sub hl [2, 1, 0] rfl)
        · skip
          have c30 : (mUser G ((kq / 48 : Nat) : Int) ((kq % 48 : Nat) : Int) (G 28 0).toNat) = (-1) := (cmp_eq (zI_toInt (by omega) (by omega)) (zI_toInt (by omega) (by omega))).mp c30
          refine lv_iconst (v := nI 1) hx hb dX10_spare_33 (by decide) ?_
          refine lv_goto (tgt := 38) hx hb dX10_spare_34 (by decide) ?_
          refine lv_iadd hx hb dX10_spare_38 ?_
          refine g_top (y := zI ((mSpare G kq) + 1)) (zI_add_in _ _) ?_
          refine g_top (y := zI (mSpare G (kq + 1))) (by simp only [mSpare]; first | rw [if_pos (by omega)] | rw [if_neg (by omega)]) ?_
          refine lv_istore_n (lv' := [(1, .int (zI (mSpare G (kq + 1)))), (0, .ref (ad 28)), (2, .int (nI kq))]) hx hb dX10_spare_39 rfl hl (by decide) rfl (fun ls hl => ?_)
          refine lv_iinc (v := nI (kq + 1)) (lv' := [(2, .int (nI (kq + 1))), (1, .int (zI (mSpare G (kq + 1)))), (0, .ref (ad 28))]) hx hb dX10_spare_40 hl (k := 2) rfl (by rw [show (Int32.ofInt 1 : Int32) = nI 1 from rfl, nI_add]) (by decide) rfl (fun ls hl => ?_)
          refine lv_goto (tgt := 9) hx hb dX10_spare_43 (by decide) ?_
          exact ihq9 (kq + 1) (by omega) (by omega) _ _ _ hG (lv_sub hl [2, 1, 0] rfl)
  exact LLq9 _ 0 (by omega) (Nat.lt_succ_self _) _ _ _ hG (lv_sub hl [2, 1, 0] rfl)

abbrev PX10_isFree (ad : Nat → Nat) (A : Nat → Nat → Int32) (J : Nat → Nat → Int64) (G : Nat → Nat → Int) (frq wq phq peq eaq : Int) : Option Value → (Nat → Nat → Int32) → (Nat → Nat → Int64) → Prop := fun v_ A1 J1 => (v_ = some (.int (nI 1)) ∧ A = A1 ∧ J = J1 ∧ (mFree G frq wq phq peq eaq)) ∨ (v_ = some (.int (nI 0)) ∧ A = A1 ∧ J = J1 ∧ (¬ (mFree G frq wq phq peq eaq)))
set_option maxHeartbeats 4000000 in
set_option maxRecDepth 100000 in
theorem cX10_isFreeC (l : Launch) (D : va_G) (cy : Nat → ClassId) (base : Nat) (ad : Nat → Nat) (n : Nat) (A : Nat → Nat → Int32) (J : Nat → Nat → Int64) (G : Nat → Nat → Int) (frq wq phq peq eaq : Int) (hM : MSt A G) (hT : TsOk G) (hpe : peq = 1 ∨ peq = 2 ∨ peq = 4) (hph : 0 ≤ phq ∧ phq < peq) (hw : 1 ≤ wq ∧ wq ≤ 12) (hfr : 0 ≤ frq ∧ frq ≤ 48) (hea : eaq = 1 ∨ eaq = 2) : gMet l yX10_isFree wsX10_isFree ({ frames := 2, cells := 0, slots := 0, locals := 48 } : Room) D cy base ad n A J [.ref (ad 28), .int (zI frq), .int (zI wq), .int (zI phq), .int (zI peq), .int (zI eaq)] (PX10_isFree ad A J G frq wq phq peq eaq) := by
  refine g_ofW (cc := cX10_isFree) (maxL := 9) (ret := (some .boolean)) (by decide) rfl (Nat.le_of_ble_eq_true rfl) ?_
  intro pM eM sM mM aM bM methM cM H locs ls hx hb hr hts hown hlocks hml hE hG hl
  have hl : lv_has ls 9 [(0, .ref (ad 28)), (1, .int (zI frq)), (2, .int (zI wq)), (3, .int (zI phq)), (4, .int (zI peq)), (5, .int (zI eaq))] := hl
  have hinX10 : ∀ w ∈ u_ws RX10 TX10 35, w ∈ wsX10_isFree := by decide +kernel
  refine lv_iconst (v := nI 1) hx hb dX10_isFree_0 (by decide) ?_
  refine lv_istore (lv' := [(6, .int (nI 1)), (0, .ref (ad 28)), (1, .int (zI frq)), (2, .int (zI wq)), (3, .int (zI phq)), (4, .int (zI peq)), (5, .int (zI eaq))]) hx hb dX10_isFree_1 hl (by decide) rfl (fun ls hl => ?_)
  refine lv_iload_n hx hb dX10_isFree_3 rfl (lv_at hl 4 rfl) ?_
  refine lv_istore (lv' := [(7, .int (zI phq)), (6, .int (nI 1)), (0, .ref (ad 28)), (1, .int (zI frq)), (2, .int (zI wq)), (3, .int (zI phq)), (4, .int (zI peq)), (5, .int (zI eaq))]) hx hb dX10_isFree_4 hl (by decide) rfl (fun ls hl => ?_)
  have LLq6 : ∀ (fuel : Nat) (xq : Nat) (cq : Int) (hc1 : phq ≤ cq) (hc2 : cq < 4 + peq) (hc3 : (cq - phq) % peq = 0) (hxq : (xq = 1 ∧ mPO G phq peq frq wq eaq cq) ∨ (xq = 0 ∧ ¬ mPO G phq peq frq wq eaq cq)) (_ : (4 - cq).toNat < fuel) (H : Heap) (locs : List Loc) (ls : Array Slot), gH D base sM ad (50 + 2 * n) (gw cy ad n A J) H locs → lv_has ls 9 [(0, .ref (ad 28)), (1, .int (zI frq)), (2, .int (zI wq)), (3, .int (zI phq)), (4, .int (zI peq)), (5, .int (zI eaq)), (6, .int (nI xq)), (7, .int (zI cq))] → W pM l eM ({ frames := 2, cells := 0, slots := 0, locals := 48 } : Room) sM mM aM bM methM cM H locs 0 0 (MQ bM (gPost D cy base ad n (PX10_isFree ad A J G frq wq phq peq eaq)) aM sM 0 0 (fun q => base ≤ q)) (F0 mM 6 ls []) := by
    intro fuel
    induction fuel with
    | zero => intro xq cq hc1 hc2 hc3 hxq hms H locs ls hG hl; exact absurd hms (Nat.not_lt_zero _)
    | succ fuel ihq6 =>
      intro xq cq hc1 hc2 hc3 hxq hms H locs ls hG hl
      refine lv_iload hx hb dX10_isFree_6 (lv_at hl 7 rfl) ?_
      refine lv_iconst (v := nI 4) hx hb dX10_isFree_8 (by decide) ?_
      refine lv_icmp_ge (tgt := 86) hx hb dX10_isFree_9 (by decide) (fun c9 => ?_) (fun c9 => ?_)
      · skip
        have c9 : ((4 : Nat) : Int) ≤ cq := (cmp_le (nI_toInt (by omega)) (zI_toInt (by omega) (by omega))).mp c9
        refine lv_iload hx hb dX10_isFree_86 (lv_at hl 6 rfl) ?_
        exact g_zret hx hb hr hlocks hG (by rcases hxq with h9 | h9 <;> rw [h9.1] <;> rfl) (by have e9 := mPO_end (G := G) (ph := phq) (fr := frq) (w := wq) (ea := eaq) hpe hc3 (by omega) hc2; exact hxq.elim (fun h9 => Or.inl ⟨by rw [h9.1], rfl, rfl, e9.mp h9.2⟩) (fun h9 => Or.inr ⟨by rw [h9.1], rfl, rfl, fun q9 => h9.2 (e9.mpr q9)⟩)) dX10_isFree_88
      · skip
        have c9 : ¬ (((4 : Nat) : Int) ≤ cq) := fun z9 => c9 ((cmp_le (nI_toInt (by omega)) (zI_toInt (by omega) (by omega))).mpr z9)
        refine lv_iconst (v := nI 0) hx hb dX10_isFree_12 (by decide) ?_
        refine lv_istore (lv' := [(8, .int (nI 0)), (0, .ref (ad 28)), (1, .int (zI frq)), (2, .int (zI wq)), (3, .int (zI phq)), (4, .int (zI peq)), (5, .int (zI eaq)), (6, .int (nI xq)), (7, .int (zI cq))]) hx hb dX10_isFree_13 hl (by decide) rfl (fun ls hl => ?_)
        have LLq15 : ∀ (fuel : Nat) (yq kq : Nat) (hk : (kq : Int) ≤ wq) (hyq : (yq = 1 ∧ mPI G phq peq frq wq eaq cq kq) ∨ (yq = 0 ∧ ¬ mPI G phq peq frq wq eaq cq kq)) (_ : (wq - kq).toNat < fuel) (H : Heap) (locs : List Loc) (ls : Array Slot), gH D base sM ad (50 + 2 * n) (gw cy ad n A J) H locs → lv_has ls 9 [(0, .ref (ad 28)), (1, .int (zI frq)), (2, .int (zI wq)), (3, .int (zI phq)), (4, .int (zI peq)), (5, .int (zI eaq)), (6, .int (nI yq)), (7, .int (zI cq)), (8, .int (nI kq))] → W pM l eM ({ frames := 2, cells := 0, slots := 0, locals := 48 } : Room) sM mM aM bM methM cM H locs 0 0 (MQ bM (gPost D cy base ad n (PX10_isFree ad A J G frq wq phq peq eaq)) aM sM 0 0 (fun q => base ≤ q)) (F0 mM 15 ls []) := by
          intro fuel
          induction fuel with
          | zero => intro yq kq hk hyq hms H locs ls hG hl; exact absurd hms (Nat.not_lt_zero _)
          | succ fuel ihq15 =>
            intro yq kq hk hyq hms H locs ls hG hl
            refine lv_iload hx hb dX10_isFree_15 (lv_at hl 8 rfl) ?_
            refine lv_iload_n hx hb dX10_isFree_17 rfl (lv_at hl 2 rfl) ?_
            refine lv_icmp_ge (tgt := 76) hx hb dX10_isFree_18 (by decide) (fun c18 => ?_) (fun c18 => ?_)
            · skip
              have c18 : wq ≤ ((kq : Nat) : Int) := (cmp_le (zI_toInt (by omega) (by omega)) (nI_toInt (by omega))).mp c18
              refine lv_iload hx hb dX10_isFree_76 (lv_at hl 7 rfl) ?_
              refine lv_iload hx hb dX10_isFree_78 (lv_at hl 4 rfl) ?_
              refine lv_iadd hx hb dX10_isFree_80 ?_
              refine g_top (y := zI (cq + peq)) (zI_add _ _) ?_
              refine lv_istore (lv' := [(7, .int (zI (cq + peq))), (0, .ref (ad 28)), (1, .int (zI frq)), (2, .int (zI wq)), (3, .int (zI phq)), (4, .int (zI peq)), (5, .int (zI eaq)), (6, .int (nI yq)), (8, .int (nI kq))]) hx hb dX10_isFree_81 hl (by decide) rfl (fun ls hl => ?_)
              refine lv_goto (tgt := 6) hx hb dX10_isFree_83 (by decide) ?_
              exact ihq6 yq (cq + peq) (by omega) (by omega) (by rcases hpe with h9 | h9 | h9 <;> rw [h9] at hc3 ⊢ <;> omega) (by rw [← mPO_step hpe hc3 hc1 (show (kq : Int) = wq by omega)]; exact hyq) (by omega) _ _ _ hG (lv_sub hl [1, 2, 3, 4, 5, 6, 7, 0] rfl)
            · skip
              have c18 : ¬ (wq ≤ ((kq : Nat) : Int)) := fun z9 => c18 ((cmp_le (zI_toInt (by omega) (by omega)) (nI_toInt (by omega))).mpr z9)
              have LLq68 : ∀  (bq : Nat) (hbq : (bq = 1 ∧ mPI G phq peq frq wq eaq cq (kq + 1)) ∨ (bq = 0 ∧ ¬ mPI G phq peq frq wq eaq cq (kq + 1))) (H : Heap) (locs : List Loc) (ls : Array Slot), gH D base sM ad (50 + 2 * n) (gw cy ad n A J) H locs → lv_has ls 9 [(0, .ref (ad 28)), (1, .int (zI frq)), (2, .int (zI wq)), (3, .int (zI phq)), (4, .int (zI peq)), (5, .int (zI eaq)), (6, .int (nI yq)), (7, .int (zI cq)), (8, .int (nI kq))] → W pM l eM ({ frames := 2, cells := 0, slots := 0, locals := 48 } : Room) sM mM aM bM methM cM H locs 0 0 (MQ bM (gPost D cy base ad n (PX10_isFree ad A J G frq wq phq peq eaq)) aM sM 0 0 (fun q => base ≤ q)) (F0 mM 68 ls [.int (nI bq)]) := by
                intro bq hbq H locs ls hG hl
                refine lv_istore (lv' := [(6, .int (nI bq)), (0, .ref (ad 28)), (1, .int (zI frq)), (2, .int (zI wq)), (3, .int (zI phq)), (4, .int (zI peq)), (5, .int (zI eaq)), (7, .int (zI cq)), (8, .int (nI kq))]) hx hb dX10_isFree_68 hl (by decide) rfl (fun ls hl => ?_)
                refine lv_iinc (v := nI (kq + 1)) (lv' := [(8, .int (nI (kq + 1))), (6, .int (nI bq)), (0, .ref (ad 28)), (1, .int (zI frq)), (2, .int (zI wq)), (3, .int (zI phq)), (4, .int (zI peq)), (5, .int (zI eaq)), (7, .int (zI cq))]) hx hb dX10_isFree_70 hl (k := 8) rfl (by rw [show (Int32.ofInt 1 : Int32) = nI 1 from rfl, nI_add]) (by decide) rfl (fun ls hl => ?_)
                refine lv_goto (tgt := 15) hx hb dX10_isFree_73 (by decide) ?_
                exact ihq15 bq (kq + 1) (by omega) hbq (by omega) _ _ _ hG (lv_sub hl [2, 3, 4, 5, 6, 7, 1, 8, 0] rfl)
              refine lv_iload hx hb dX10_isFree_21 (lv_at hl 6 rfl) ?_
              refine lv_if_eq (tgt := 67) hx hb dX10_isFree_23 (by decide) (fun c23 => ?_) (fun c23 => ?_)
              · skip
                have c23 : (nI yq) = nI 0 := c23
                have c23 : yq = 0 := (nI_eq (by omega) (by omega)).mp c23
                refine lv_iconst (v := nI 0) hx hb dX10_isFree_67 (by decide) ?_
                exact LLq68 0 (by first | exact Or.inr ⟨rfl, mPI_0a ((hyq.resolve_left (fun h9 => by omega)).2)⟩ | exact Or.inl ⟨rfl, mPI_1 ((hyq.resolve_right (fun h9 => by omega)).2) ⟨by omega, by omega⟩⟩ | exact Or.inr ⟨rfl, mPI_0b (fun h9 => by have a9 := h9.1; have b9 := h9.2; omega)⟩) _ _ _ hG (lv_sub hl [0, 1, 2, 3, 4, 5, 6, 7, 8] rfl)
              · skip
                have c23 : ¬ ((nI yq) = nI 0) := c23
                have c23 : ¬ (yq = 0) := fun z9 => c23 ((nI_eq (by omega) (by omega)).mpr z9)
                refine lv_aload_n hx hb dX10_isFree_26 rfl (lv_at hl 0 rfl) ?_
                refine lv_iload hx hb dX10_isFree_27 (lv_at hl 7 rfl) ?_
                refine lv_iload_n hx hb dX10_isFree_29 rfl (lv_at hl 1 rfl) ?_
                refine lv_iload hx hb dX10_isFree_30 (lv_at hl 8 rfl) ?_
                refine lv_iadd hx hb dX10_isFree_32 ?_
                refine g_top (y := zI (frq + ((kq : Nat) : Int))) (zI_add_in _ _) ?_
                refine g_callV (As := [.int (zI cq), .int (zI (frq + ((kq : Nat) : Int)))]) (rest := []) (r := (RX10, TX10, 35)) ⟨hx, hb, hml, hown, hts⟩ hE hG (cX10_userOfC l D cy base ad n A J G cq (frq + ((kq : Nat) : Int)) (by first | exact hM | exact hM.st | exact hM.pa | exact hM.th _ | exact (hM.th _).st | exact (hM.th _).pa | exact (hM.th _).th _ | exact ((hM.th _).th _).st) (by first | assumption | omega) (by first | assumption | omega) (by first | assumption | omega) (by first | assumption | omega) (by first | assumption | omega)) (cwV 2 hts gX10_isFree_X10_userOf rfl rfl rfl (by decide +kernel) ⟨Nat.le_of_ble_eq_true rfl, Nat.le_of_ble_eq_true rfl⟩) (by omega) rfl rfl rfl hl.1 rfl (Nat.le_of_ble_eq_true rfl) dX10_isFree_33 ⟨Nat.zero_le _, Nat.zero_le _⟩ (fun v_ A33 J33 H locs hp hG => ?_)
                obtain ⟨rfl, rfl, rfl⟩ := hp
                refine W.eq (g2 := F0 mM 36 ls [.int (zI (mUser G cq (frq + ((kq : Nat) : Int)) (G 28 0).toNat))]) rfl ?_
                have hu1 := mUser_range G cq (frq + ((kq : Nat) : Int)) (G 28 0).toNat
                refine lv_iconst (v := zI (-1)) hx hb dX10_isFree_36 (by decide) ?_
                refine lv_icmp_ne (tgt := 67) hx hb dX10_isFree_37 (by decide) (fun c37 => ?_) (fun c37 => ?_)
                · skip
                  have c37 : ¬ ((mUser G cq (frq + ((kq : Nat) : Int)) (G 28 0).toNat) = (-1)) := fun z9 => c37 ((cmp_eq (zI_toInt (by omega) (by omega)) (zI_toInt (by omega) (by omega))).mpr z9)
                  refine lv_iconst (v := nI 0) hx hb dX10_isFree_67 (by decide) ?_
                  exact LLq68 0 (by first | exact Or.inr ⟨rfl, mPI_0a ((hyq.resolve_left (fun h9 => by omega)).2)⟩ | exact Or.inl ⟨rfl, mPI_1 ((hyq.resolve_right (fun h9 => by omega)).2) ⟨by omega, by omega⟩⟩ | exact Or.inr ⟨rfl, mPI_0b (fun h9 => by have a9 := h9.1; have b9 := h9.2; omega)⟩) _ _ _ hG (lv_sub hl [0, 1, 2, 3, 4, 5, 6, 7, 8] rfl)
                · skip
                  have c37 : (mUser G cq (frq + ((kq : Nat) : Int)) (G 28 0).toNat) = (-1) := (cmp_eq (zI_toInt (by omega) (by omega)) (zI_toInt (by omega) (by omega))).mp c37
                  refine lv_iload hx hb dX10_isFree_40 (lv_at hl 5 rfl) ?_
                  refine lv_iconst (v := nI 1) hx hb dX10_isFree_42 (by decide) ?_
                  refine lv_icmp_eq (tgt := 63) hx hb dX10_isFree_43 (by decide) (fun c43 => ?_) (fun c43 => ?_)
                  · skip
                    have c43 : eaq = ((1 : Nat) : Int) := (cmp_eq (zI_toInt (by omega) (by omega)) (nI_toInt (by omega))).mp c43
                    refine lv_iconst (v := nI 1) hx hb dX10_isFree_63 (by decide) ?_
                    refine lv_goto (tgt := 68) hx hb dX10_isFree_64 (by decide) ?_
                    exact LLq68 1 (by first | exact Or.inr ⟨rfl, mPI_0a ((hyq.resolve_left (fun h9 => by omega)).2)⟩ | exact Or.inl ⟨rfl, mPI_1 ((hyq.resolve_right (fun h9 => by omega)).2) ⟨by omega, by omega⟩⟩ | exact Or.inr ⟨rfl, mPI_0b (fun h9 => by have a9 := h9.1; have b9 := h9.2; omega)⟩) _ _ _ hG (lv_sub hl [0, 1, 2, 3, 4, 5, 6, 7, 8] rfl)
                  · skip
                    have c43 : ¬ (eaq = ((1 : Nat) : Int)) := fun z9 => c43 ((cmp_eq (zI_toInt (by omega) (by omega)) (nI_toInt (by omega))).mpr z9)
                    refine lv_aload_n hx hb dX10_isFree_46 rfl (lv_at hl 0 rfl) ?_
                    refine lv_iload hx hb dX10_isFree_47 (lv_at hl 7 rfl) ?_
                    refine lv_bipush (v := nI 24) hx hb dX10_isFree_49 (by decide) ?_
                    refine lv_iload_n hx hb dX10_isFree_51 rfl (lv_at hl 1 rfl) ?_
                    refine lv_iadd hx hb dX10_isFree_52 ?_
                    refine g_top (y := zI (24 + frq)) (zI_add_ni _ _) ?_
                    refine lv_iload hx hb dX10_isFree_53 (lv_at hl 8 rfl) ?_
                    refine lv_iadd hx hb dX10_isFree_55 ?_
                    refine g_top (y := zI ((24 + frq) + ((kq : Nat) : Int))) (zI_add_in _ _) ?_
                    refine g_callV (As := [.int (zI cq), .int (zI ((24 + frq) + ((kq : Nat) : Int)))]) (rest := []) (r := (RX10, TX10, 35)) ⟨hx, hb, hml, hown, hts⟩ hE hG (cX10_userOfC l D cy base ad n A J G cq ((24 + frq) + ((kq : Nat) : Int)) (by first | exact hM | exact hM.st | exact hM.pa | exact hM.th _ | exact (hM.th _).st | exact (hM.th _).pa | exact (hM.th _).th _ | exact ((hM.th _).th _).st) (by first | assumption | omega) (by first | assumption | omega) (by first | assumption | omega) (by first | assumption | omega) (by first | assumption | omega)) (cwV 2 hts gX10_isFree_X10_userOf rfl rfl rfl (by decide +kernel) ⟨Nat.le_of_ble_eq_true rfl, Nat.le_of_ble_eq_true rfl⟩) (by omega) rfl rfl rfl hl.1 rfl (Nat.le_of_ble_eq_true rfl) dX10_isFree_56 ⟨Nat.zero_le _, Nat.zero_le _⟩ (fun v_ A56 J56 H locs hp hG => ?_)
                    obtain ⟨rfl, rfl, rfl⟩ := hp
                    refine W.eq (g2 := F0 mM 59 ls [.int (zI (mUser G cq ((24 + frq) + ((kq : Nat) : Int)) (G 28 0).toNat))]) rfl ?_
                    have hu2 := mUser_range G cq (24 + frq + ((kq : Nat) : Int)) (G 28 0).toNat
                    refine lv_iconst (v := zI (-1)) hx hb dX10_isFree_59 (by decide) ?_
                    refine lv_icmp_ne (tgt := 67) hx hb dX10_isFree_60 (by decide) (fun c60 => ?_) (fun c60 => ?_)
                    · skip
                      have c60 : ¬ ((mUser G cq ((24 + frq) + ((kq : Nat) : Int)) (G 28 0).toNat) = (-1)) := fun z9 => c60 ((cmp_eq (zI_toInt (by omega) (by omega)) (zI_toInt (by omega) (by omega))).mpr z9)
                      refine lv_iconst (v := nI 0) hx hb dX10_isFree_67 (by decide) ?_
                      exact LLq68 0 (by first | exact Or.inr ⟨rfl, mPI_0a ((hyq.resolve_left (fun h9 => by omega)).2)⟩ | exact Or.inl ⟨rfl, mPI_1 ((hyq.resolve_right (fun h9 => by omega)).2) ⟨by omega, by omega⟩⟩ | exact Or.inr ⟨rfl, mPI_0b (fun h9 => by have a9 := h9.1; have b9 := h9.2; omega)⟩) _ _ _ hG (lv_sub hl [0, 1, 2, 3, 4, 5, 6, 7, 8] rfl)
                    · skip
                      have c60 : (mUser G cq ((24 + frq) + ((kq : Nat) : Int)) (G 28 0).toNat) = (-1) := (cmp_eq (zI_toInt (by omega) (by omega)) (zI_toInt (by omega) (by omega))).mp c60
                      refine lv_iconst (v := nI 1) hx hb dX10_isFree_63 (by decide) ?_
                      refine lv_goto (tgt := 68) hx hb dX10_isFree_64 (by decide) ?_
                      exact LLq68 1 (by first | exact Or.inr ⟨rfl, mPI_0a ((hyq.resolve_left (fun h9 => by omega)).2)⟩ | exact Or.inl ⟨rfl, mPI_1 ((hyq.resolve_right (fun h9 => by omega)).2) ⟨by omega, by omega⟩⟩ | exact Or.inr ⟨rfl, mPI_0b (fun h9 => by have a9 := h9.1; have b9 := h9.2; omega)⟩) _ _ _ hG (lv_sub hl [0, 1, 2, 3, 4, 5, 6, 7, 8] rfl)
        exact LLq15 _ xq 0 (by omega) (hxq.elim (fun h9 => Or.inl ⟨h9.1, h9.2, fun j9 hj9 => absurd hj9 (Nat.not_lt_zero _)⟩) (fun h9 => Or.inr ⟨h9.1, fun q9 => h9.2 q9.1⟩)) (Nat.lt_succ_self _) _ _ _ hG (lv_sub hl [1, 2, 3, 4, 5, 6, 7, 8, 0] rfl)
  exact LLq6 _ 1 phq (Int.le_refl _) (by omega) (by rw [Int.sub_self]; rfl) (Or.inl ⟨rfl, fun c9 a b => absurd a (by omega)⟩) (Nat.lt_succ_self _) _ _ _ hG (lv_sub hl [2, 3, 4, 5, 6, 7, 1, 0] rfl)

abbrev PX10_firstPlace (ad : Nat → Nat) (A : Nat → Nat → Int32) (J : Nat → Nat → Int64) (G : Nat → Nat → Int) (wq peq eaq : Int) : Option Value → (Nat → Nat → Int32) → (Nat → Nat → Int64) → Prop := fun v_ A1 J1 => (∃ (rq : Int), v_ = some (.int (zI rq)) ∧ A = A1 ∧ J = J1 ∧ (mFirst G wq peq eaq rq))
set_option maxHeartbeats 4000000 in
set_option maxRecDepth 100000 in
theorem cX10_firstPlaceC (l : Launch) (D : va_G) (cy : Nat → ClassId) (base : Nat) (ad : Nat → Nat) (n : Nat) (A : Nat → Nat → Int32) (J : Nat → Nat → Int64) (G : Nat → Nat → Int) (wq peq eaq : Int) (hM : MSt A G) (hT : TsOk G) (hpe : peq = 1 ∨ peq = 2 ∨ peq = 4) (hw : 1 ≤ wq ∧ wq ≤ 12) (hea : eaq = 1 ∨ eaq = 2) : gMet l yX10_firstPlace wsX10_firstPlace ({ frames := 3, cells := 0, slots := 0, locals := 76 } : Room) D cy base ad n A J [.ref (ad 28), .int (zI wq), .int (zI peq), .int (zI eaq)] (PX10_firstPlace ad A J G wq peq eaq) := by
  refine g_ofW (cc := cX10_firstPlace) (maxL := 6) (ret := (some .int)) (by decide) rfl (Nat.le_of_ble_eq_true rfl) ?_
  intro pM eM sM mM aM bM methM cM H locs ls hx hb hr hts hown hlocks hml hE hG hl
  have hl : lv_has ls 6 [(0, .ref (ad 28)), (1, .int (zI wq)), (2, .int (zI peq)), (3, .int (zI eaq))] := hl
  have hinX10 : ∀ w ∈ u_ws RX10 TX10 35, w ∈ wsX10_firstPlace := by decide +kernel
  have hlim : mLim eaq = 24 ∨ mLim eaq = 48 := by unfold mLim; split <;> omega
  refine lv_iconst (v := nI 0) hx hb dX10_firstPlace_0 (by decide) ?_
  refine lv_istore (lv' := [(4, .int (nI 0)), (0, .ref (ad 28)), (1, .int (zI wq)), (2, .int (zI peq)), (3, .int (zI eaq))]) hx hb dX10_firstPlace_1 hl (by decide) rfl (fun ls hl => ?_)
  have LLq3 : ∀ (fuel : Nat) (pq : Int) (hp1 : 0 ≤ pq) (hp2 : pq ≤ peq) (hno : mNone G wq peq eaq pq 0) (_ : (peq - pq).toNat < fuel) (H : Heap) (locs : List Loc) (ls : Array Slot), gH D base sM ad (50 + 2 * n) (gw cy ad n A J) H locs → lv_has ls 6 [(0, .ref (ad 28)), (1, .int (zI wq)), (2, .int (zI peq)), (3, .int (zI eaq)), (4, .int (zI pq))] → W pM l eM ({ frames := 3, cells := 0, slots := 0, locals := 76 } : Room) sM mM aM bM methM cM H locs 0 0 (MQ bM (gPost D cy base ad n (PX10_firstPlace ad A J G wq peq eaq)) aM sM 0 0 (fun q => base ≤ q)) (F0 mM 3 ls []) := by
    intro fuel
    induction fuel with
    | zero => intro pq hp1 hp2 hno hms H locs ls hG hl; exact absurd hms (Nat.not_lt_zero _)
    | succ fuel ihq3 =>
      intro pq hp1 hp2 hno hms H locs ls hG hl
      refine lv_iload hx hb dX10_firstPlace_3 (lv_at hl 4 rfl) ?_
      refine lv_iload_n hx hb dX10_firstPlace_5 rfl (lv_at hl 2 rfl) ?_
      refine lv_icmp_ge (tgt := 66) hx hb dX10_firstPlace_6 (by decide) (fun c6 => ?_) (fun c6 => ?_)
      · skip
        have c6 : peq ≤ pq := (cmp_le (zI_toInt (by omega) (by omega)) (zI_toInt (by omega) (by omega))).mp c6
        refine lv_iconst (v := zI (-1)) hx hb dX10_firstPlace_66 (by decide) ?_
        exact g_iret hx hb hr hlocks hG ⟨-1, rfl, rfl, rfl, Or.inl ⟨rfl, by have h9 : pq = peq := (by omega); subst h9; exact hno⟩⟩ dX10_firstPlace_67
      · skip
        have c6 : ¬ (peq ≤ pq) := fun z9 => c6 ((cmp_le (zI_toInt (by omega) (by omega)) (zI_toInt (by omega) (by omega))).mpr z9)
        refine lv_iconst (v := nI 0) hx hb dX10_firstPlace_9 (by decide) ?_
        refine lv_istore (lv' := [(5, .int (nI 0)), (0, .ref (ad 28)), (1, .int (zI wq)), (2, .int (zI peq)), (3, .int (zI eaq)), (4, .int (zI pq))]) hx hb dX10_firstPlace_10 hl (by decide) rfl (fun ls hl => ?_)
        have LLq12 : ∀ (fuel : Nat) (fq : Int) (hf1 : 0 ≤ fq) (hf2 : fq ≤ 48) (hnf : mNone G wq peq eaq pq fq) (_ : (48 - fq).toNat < fuel) (H : Heap) (locs : List Loc) (ls : Array Slot), gH D base sM ad (50 + 2 * n) (gw cy ad n A J) H locs → lv_has ls 6 [(0, .ref (ad 28)), (1, .int (zI wq)), (2, .int (zI peq)), (3, .int (zI eaq)), (4, .int (zI pq)), (5, .int (zI fq))] → W pM l eM ({ frames := 3, cells := 0, slots := 0, locals := 76 } : Room) sM mM aM bM methM cM H locs 0 0 (MQ bM (gPost D cy base ad n (PX10_firstPlace ad A J G wq peq eaq)) aM sM 0 0 (fun q => base ≤ q)) (F0 mM 12 ls []) := by
          intro fuel
          induction fuel with
          | zero => intro fq hf1 hf2 hnf hms H locs ls hG hl; exact absurd hms (Nat.not_lt_zero _)
          | succ fuel ihq12 =>
            intro fq hf1 hf2 hnf hms H locs ls hG hl
            refine lv_iload hx hb dX10_firstPlace_12 (lv_at hl 5 rfl) ?_
            refine lv_iload_n hx hb dX10_firstPlace_14 rfl (lv_at hl 1 rfl) ?_
            refine lv_iadd hx hb dX10_firstPlace_15 ?_
            refine g_top (y := zI (fq + wq)) (zI_add _ _) ?_
            have LLq28 : ∀  (lq : Int) (hlq : lq = mLim eaq) (H : Heap) (locs : List Loc) (ls : Array Slot), gH D base sM ad (50 + 2 * n) (gw cy ad n A J) H locs → lv_has ls 6 [(0, .ref (ad 28)), (1, .int (zI wq)), (2, .int (zI peq)), (3, .int (zI eaq)), (4, .int (zI pq)), (5, .int (zI fq))] → W pM l eM ({ frames := 3, cells := 0, slots := 0, locals := 76 } : Room) sM mM aM bM methM cM H locs 0 0 (MQ bM (gPost D cy base ad n (PX10_firstPlace ad A J G wq peq eaq)) aM sM 0 0 (fun q => base ≤ q)) (F0 mM 28 ls [.int (zI lq), .int (zI (fq + wq))]) := by
              intro lq hlq H locs ls hG hl
              subst hlq
              refine lv_icmp_gt (tgt := 60) hx hb dX10_firstPlace_28 (by decide) (fun c28 => ?_) (fun c28 => ?_)
              · skip
                have c28 : (mLim eaq) < (fq + wq) := (cmp_lt (zI_toInt (by omega) (by omega)) (zI_toInt (by omega) (by omega))).mp c28
                refine lv_iinc (v := zI (pq + 1)) (lv' := [(4, .int (zI (pq + 1))), (0, .ref (ad 28)), (1, .int (zI wq)), (2, .int (zI peq)), (3, .int (zI eaq)), (5, .int (zI fq))]) hx hb dX10_firstPlace_60 hl (k := 4) rfl (by rw [show (Int32.ofInt 1 : Int32) = zI (1) from rfl, zI_add]) (by decide) rfl (fun ls hl => ?_)
                refine lv_goto (tgt := 3) hx hb dX10_firstPlace_63 (by decide) ?_
                exact ihq3 (pq + 1) (by omega) (by omega) (mNone_p hnf (by omega)) (by omega) _ _ _ hG (lv_sub hl [1, 2, 3, 4, 0] rfl)
              · skip
                have c28 : ¬ ((mLim eaq) < (fq + wq)) := fun z9 => c28 ((cmp_lt (zI_toInt (by omega) (by omega)) (zI_toInt (by omega) (by omega))).mpr z9)
                refine lv_aload_n hx hb dX10_firstPlace_31 rfl (lv_at hl 0 rfl) ?_
                refine lv_iload hx hb dX10_firstPlace_32 (lv_at hl 5 rfl) ?_
                refine lv_iload_n hx hb dX10_firstPlace_34 rfl (lv_at hl 1 rfl) ?_
                refine lv_iload hx hb dX10_firstPlace_35 (lv_at hl 4 rfl) ?_
                refine lv_iload_n hx hb dX10_firstPlace_37 rfl (lv_at hl 2 rfl) ?_
                refine lv_iload_n hx hb dX10_firstPlace_38 rfl (lv_at hl 3 rfl) ?_
                refine g_callV (As := [.int (zI fq), .int (zI wq), .int (zI pq), .int (zI peq), .int (zI eaq)]) (rest := []) (r := (RX10, TX10, 35)) ⟨hx, hb, hml, hown, hts⟩ hE hG (cX10_isFreeC l D cy base ad n A J G fq wq pq peq eaq (by first | exact hM | exact hM.st | exact hM.pa | exact hM.th _ | exact (hM.th _).st | exact (hM.th _).pa | exact (hM.th _).th _ | exact ((hM.th _).th _).st) (by first | assumption | omega) (by first | assumption | omega) (by first | assumption | omega) (by first | assumption | omega) (by first | assumption | omega) (by first | assumption | omega)) (cwV 5 hts gX10_firstPlace_X10_isFree rfl rfl rfl (by decide +kernel) ⟨Nat.le_of_ble_eq_true rfl, Nat.le_of_ble_eq_true rfl⟩) (by omega) rfl rfl rfl hl.1 rfl (Nat.le_of_ble_eq_true rfl) dX10_firstPlace_39 ⟨Nat.zero_le _, Nat.zero_le _⟩ (fun v_ A39 J39 H locs hp hG => ?_)
                rcases hp with ⟨rfl, rfl, rfl, hC_39⟩ | ⟨rfl, rfl, rfl, hC_39⟩
                · refine W.eq (g2 := F0 mM 42 ls [.int (nI 1)]) rfl ?_
                  refine lv_if_eq (tgt := 54) hx hb dX10_firstPlace_42 (by decide) (fun c42 => ?_) (fun c42 => ?_)
                  · skip
                    exact absurd c42 (by decide)
                  · skip
                    refine lv_bipush (v := nI 100) hx hb dX10_firstPlace_45 (by decide) ?_
                    refine lv_iload hx hb dX10_firstPlace_47 (lv_at hl 4 rfl) ?_
                    refine lv_imul hx hb dX10_firstPlace_49 ?_
                    refine g_top (y := zI (100 * pq)) (zI_mul_ni _ _) ?_
                    refine lv_iload hx hb dX10_firstPlace_50 (lv_at hl 5 rfl) ?_
                    refine lv_iadd hx hb dX10_firstPlace_52 ?_
                    refine g_top (y := zI ((100 * pq) + fq)) (zI_add _ _) ?_
                    exact g_iret hx hb hr hlocks hG ⟨100 * pq + fq, rfl, rfl, rfl, Or.inr ⟨pq, fq, rfl, by omega, by omega, by omega, by omega, hC_39, hnf⟩⟩ dX10_firstPlace_53
                · refine W.eq (g2 := F0 mM 42 ls [.int (nI 0)]) rfl ?_
                  refine lv_if_eq (tgt := 54) hx hb dX10_firstPlace_42 (by decide) (fun c42 => ?_) (fun c42 => ?_)
                  · skip
                    refine lv_iinc (v := zI (fq + 1)) (lv' := [(5, .int (zI (fq + 1))), (0, .ref (ad 28)), (1, .int (zI wq)), (2, .int (zI peq)), (3, .int (zI eaq)), (4, .int (zI pq))]) hx hb dX10_firstPlace_54 hl (k := 5) rfl (by rw [show (Int32.ofInt 1 : Int32) = zI (1) from rfl, zI_add]) (by decide) rfl (fun ls hl => ?_)
                    refine lv_goto (tgt := 12) hx hb dX10_firstPlace_57 (by decide) ?_
                    exact ihq12 (fq + 1) (by omega) (by omega) (mNone_f hnf hC_39) (by omega) _ _ _ hG (lv_sub hl [1, 2, 3, 4, 5, 0] rfl)
                  · skip
                    exact absurd c42 (by decide)
            refine lv_iload_n hx hb dX10_firstPlace_16 rfl (lv_at hl 3 rfl) ?_
            refine lv_iconst (v := nI 2) hx hb dX10_firstPlace_17 (by decide) ?_
            refine lv_icmp_ne (tgt := 26) hx hb dX10_firstPlace_18 (by decide) (fun c18 => ?_) (fun c18 => ?_)
            · skip
              have c18 : ¬ (eaq = ((2 : Nat) : Int)) := fun z9 => c18 ((cmp_eq (zI_toInt (by omega) (by omega)) (nI_toInt (by omega))).mpr z9)
              refine lv_bipush (v := nI 48) hx hb dX10_firstPlace_26 (by decide) ?_
              exact LLq28 48 (by unfold mLim; first | rw [if_pos (by omega)] | rw [if_neg (by omega)]) _ _ _ hG (lv_sub hl [0, 1, 2, 3, 4, 5] rfl)
            · skip
              have c18 : eaq = ((2 : Nat) : Int) := (cmp_eq (zI_toInt (by omega) (by omega)) (nI_toInt (by omega))).mp c18
              refine lv_bipush (v := nI 24) hx hb dX10_firstPlace_21 (by decide) ?_
              refine lv_goto (tgt := 28) hx hb dX10_firstPlace_23 (by decide) ?_
              exact LLq28 24 (by unfold mLim; first | rw [if_pos (by omega)] | rw [if_neg (by omega)]) _ _ _ hG (lv_sub hl [0, 1, 2, 3, 4, 5] rfl)
        exact LLq12 _ 0 (Int.le_refl _) (by omega) hno (Nat.lt_succ_self _) _ _ _ hG (lv_sub hl [1, 2, 3, 4, 5, 0] rfl)
  exact LLq3 _ 0 (Int.le_refl _) (by omega) mNone_0 (Nat.lt_succ_self _) _ _ _ hG (lv_sub hl [1, 2, 3, 4, 0] rfl)
