abbrev PX10_addPoint (ad : Nat → Nat) (A : Nat → Nat → Int32) (J : Nat → Nat → Int64) (G : Nat → Nat → Int) (wq cq pq : Int) (tq : Nat) : Option Value → (Nat → Nat → Int32) → (Nat → Nat → Int64) → Prop := fun v_ A1 J1 => (v_ = some (.int (nI 0)) ∧ gu A 28 34 (nI 1) = A1 ∧ J = J1 ∧ (¬ mGood wq cq pq tq)) ∨ (v_ = some (.int (nI 0)) ∧ gu A 28 34 (nI 2) = A1 ∧ J = J1 ∧ (mGood wq cq pq tq) ∧ (∃ rq, mFirst G wq pq ((tq + 1 : Nat) : Int) rq ∧ (G 28 0 = 12 ∨ rq = -1 ∨ 0 < G 28 9))) ∨ (∃ (rq : Int), v_ = some (.int (zI (G 28 0))) ∧ gu (gu (gu (gu (gu (gu (gu (gu A 28 34 (nI 0)) 29 (G 28 0).toNat (zI wq)) 30 (G 28 0).toNat (zI cq)) 31 (G 28 0).toNat (zI pq)) 32 (G 28 0).toNat (nI (tq + 1))) 33 (G 28 0).toNat (zI (rq / 100))) 34 (G 28 0).toNat (zI (rq % 100))) 28 0 (zI (G 28 0 + 1)) = A1 ∧ J = J1 ∧ (mGood wq cq pq tq) ∧ (mFirst G wq pq ((tq + 1 : Nat) : Int) rq) ∧ (rq ≠ -1) ∧ (G 28 0 < 12) ∧ (G 28 9 = 0))
set_option maxHeartbeats 4000000 in
set_option maxRecDepth 100000 in
theorem cX10_addPointC (l : Launch) (D : va_G) (cy : Nat → ClassId) (base : Nat) (ad : Nat → Nat) (n : Nat) (A : Nat → Nat → Int32) (J : Nat → Nat → Int64) (G : Nat → Nat → Int) (wq cq pq : Int) (tq : Nat) (hM : MRep A G) (hT : TsOk G) (hwq9 : -2147483648 ≤ wq ∧ wq < 2147483648) (hcq9 : -2147483648 ≤ cq ∧ cq < 2147483648) (hpq9 : -2147483648 ≤ pq ∧ pq < 2147483648) (htq : tq ≤ 1) (hr28_9 : 0 ≤ G 28 9 ∧ G 28 9 < 1000000) : gMet l yX10_addPoint wsX10_addPoint ({ frames := 4, cells := 0, slots := 0, locals := 101 } : Room) D cy base ad n A J [.ref (ad 28), .int (zI wq), .int (zI cq), .int (zI pq), .int (nI tq)] (PX10_addPoint ad A J G wq cq pq tq) := by
  refine g_ofW (cc := cX10_addPoint) (maxL := 7) (ret := (some .int)) (by decide) rfl (Nat.le_of_ble_eq_true rfl) ?_
  intro pM eM sM mM aM bM methM cM H locs ls hx hb hr hts hown hlocks hml hE hG hl
  have hl : lv_has ls 7 [(0, .ref (ad 28)), (1, .int (zI wq)), (2, .int (zI cq)), (3, .int (zI pq)), (4, .int (nI tq))] := hl
  have hinX10 : ∀ w ∈ u_ws RX10 TX10 35, w ∈ wsX10_addPoint := by decide +kernel
  have hwz := zI_toInt (z := wq) hwq9.1 hwq9.2
  have hcz := zI_toInt (z := cq) hcq9.1 hcq9.2
  have LLq52 : ∀  (bq : Nat) (hbq : (bq = 1 ∧ mGood wq cq pq tq) ∨ (bq = 0 ∧ ¬ mGood wq cq pq tq)) (H : Heap) (locs : List Loc) (ls : Array Slot), gH D base sM ad (50 + 2 * n) (gw cy ad n A J) H locs → lv_has ls 7 [(0, .ref (ad 28)), (1, .int (zI wq)), (2, .int (zI cq)), (3, .int (zI pq)), (4, .int (nI tq))] → W pM l eM ({ frames := 4, cells := 0, slots := 0, locals := 101 } : Room) sM mM aM bM methM cM H locs 0 0 (MQ bM (gPost D cy base ad n (PX10_addPoint ad A J G wq cq pq tq)) aM sM 0 0 (fun q => base ≤ q)) (F0 mM 52 ls [.int (nI bq)]) := by
    intro bq hbq H locs ls hG hl
    refine lv_istore (lv' := [(5, .int (nI bq)), (0, .ref (ad 28)), (1, .int (zI wq)), (2, .int (zI cq)), (3, .int (zI pq)), (4, .int (nI tq))]) hx hb dX10_addPoint_52 hl (by decide) rfl (fun ls hl => ?_)
    have LLq79 : ∀  (rq : Int) (hrq : (bq = 1 ∧ mGood wq cq pq tq ∧ mFirst G wq pq ((tq + 1 : Nat) : Int) rq) ∨ (bq = 0 ∧ ¬ mGood wq cq pq tq ∧ rq = -1)) (H : Heap) (locs : List Loc) (ls : Array Slot), gH D base sM ad (50 + 2 * n) (gw cy ad n A J) H locs → lv_has ls 7 [(5, .int (nI bq)), (0, .ref (ad 28)), (1, .int (zI wq)), (2, .int (zI cq)), (3, .int (zI pq)), (4, .int (nI tq))] → W pM l eM ({ frames := 4, cells := 0, slots := 0, locals := 101 } : Room) sM mM aM bM methM cM H locs 0 0 (MQ bM (gPost D cy base ad n (PX10_addPoint ad A J G wq cq pq tq)) aM sM 0 0 (fun q => base ≤ q)) (F0 mM 79 ls [.int (zI rq)]) := by
      intro rq hrq H locs ls hG hl
      have hrr : rq = -1 ∨ (0 ≤ rq ∧ rq ≤ 347) := by
        rcases hrq with h9 | h9
        · have hg9 := h9.2.1
          rcases mFirst_range (by omega) (by omega) h9.2.2 with h8 | h8
          · exact Or.inl h8
          · exact Or.inr ⟨h8.1, h8.2.1⟩
        · exact Or.inl h9.2.2
      refine lv_istore (lv' := [(6, .int (zI rq)), (5, .int (nI bq)), (0, .ref (ad 28)), (1, .int (zI wq)), (2, .int (zI cq)), (3, .int (zI pq)), (4, .int (nI tq))]) hx hb dX10_addPoint_79 hl (by decide) rfl (fun ls hl => ?_)
      refine lv_aload_n hx hb dX10_addPoint_81 rfl (lv_at hl 2 rfl) ?_
      refine lv_iload hx hb dX10_addPoint_82 (lv_at hl 1 rfl) ?_
      refine lv_if_ne (tgt := 91) hx hb dX10_addPoint_84 (by decide) (fun c84 => ?_) (fun c84 => ?_)
      · skip
        have c84 : ¬ ((nI bq) = nI 0) := c84
        have c84 : ¬ (bq = 0) := fun z9 => c84 ((nI_eq (by omega) (by omega)).mpr z9)
        refine lv_aload_n hx hb dX10_addPoint_91 rfl (lv_at hl 2 rfl) ?_
        refine g_get (C := RX10) (T := TX10) (NN := 35) (ci := 10) hx hb hts hinX10 hown hE hG (k := 28) (by omega) rfl rfl 0 (by decide) (hts (.fieldLink RX10 81 "CommutatorModel" "points" "I") (List.mem_of_getElem? (i := 1) rfl)) rfl (v := .int (A 28 0)) rfl dX10_addPoint_92 ?_
        refine g_top (y := zI (G 28 0)) (hM 28 0 (by omega) (by omega) (by omega)) ?_
        refine lv_bipush (v := nI 12) hx hb dX10_addPoint_95 (by decide) ?_
        refine lv_icmp_eq (tgt := 113) hx hb dX10_addPoint_97 (by decide) (fun c97 => ?_) (fun c97 => ?_)
        · skip
          have c97 : (G 28 0) = ((12 : Nat) : Int) := (cmp_eq (zI_toInt (by omega) (by omega)) (nI_toInt (by omega))).mp c97
          refine lv_iconst (v := nI 2) hx hb dX10_addPoint_113 (by decide) ?_
          refine lv_goto (tgt := 118) hx hb dX10_addPoint_114 (by decide) ?_
          refine g_callV (As := [.int (nI 2)]) (rest := []) (r := (RX10, TX10, 35)) ⟨hx, hb, hml, hown, hts⟩ hE hG (cX10_canC l D cy base ad n A J 2 (by first | assumption | omega)) (cwV 1 hts gX10_addPoint_X10_can rfl rfl rfl (by decide +kernel) ⟨Nat.le_of_ble_eq_true rfl, Nat.le_of_ble_eq_true rfl⟩) (by omega) rfl rfl rfl hl.1 rfl (Nat.le_of_ble_eq_true rfl) dX10_addPoint_118 ⟨Nat.zero_le _, Nat.zero_le _⟩ (fun v_ A118 J118 H locs hp hG => ?_)
          rcases hp with ⟨rfl, rfl, rfl, hC_118⟩ | ⟨rfl, rfl, rfl, hC_118⟩
          · exact absurd hC_118 (by decide)
          · refine W.eq (g2 := F0 mM 121 ls [.int (nI 0)]) rfl ?_
            refine lv_if_ne (tgt := 126) hx hb dX10_addPoint_121 (by decide) (fun c121 => ?_) (fun c121 => ?_)
            · skip
              exact absurd c121 (by decide)
            · skip
              refine lv_iconst (v := nI 0) hx hb dX10_addPoint_124 (by decide) ?_
              exact g_iret hx hb hr hlocks hG (by first | exact Or.inl ⟨rfl, rfl, rfl, (hbq.resolve_left (fun h9 => by omega)).2⟩ | exact Or.inr (Or.inl ⟨rfl, rfl, rfl, (hbq.resolve_right (fun h9 => by omega)).2, rq, ((hrq.resolve_right (fun h9 => by omega)).2).2, by omega⟩)) dX10_addPoint_125
        · skip
          have c97 : ¬ ((G 28 0) = ((12 : Nat) : Int)) := fun z9 => c97 ((cmp_eq (zI_toInt (by omega) (by omega)) (nI_toInt (by omega))).mpr z9)
          refine lv_iload hx hb dX10_addPoint_100 (lv_at hl 0 rfl) ?_
          refine lv_iconst (v := zI (-1)) hx hb dX10_addPoint_102 (by decide) ?_
          refine lv_icmp_eq (tgt := 113) hx hb dX10_addPoint_103 (by decide) (fun c103 => ?_) (fun c103 => ?_)
          · skip
            have c103 : rq = (-1) := (cmp_eq (zI_toInt (by omega) (by omega)) (zI_toInt (by omega) (by omega))).mp c103
            refine lv_iconst (v := nI 2) hx hb dX10_addPoint_113 (by decide) ?_
            refine lv_goto (tgt := 118) hx hb dX10_addPoint_114 (by decide) ?_
            refine g_callV (As := [.int (nI 2)]) (rest := []) (r := (RX10, TX10, 35)) ⟨hx, hb, hml, hown, hts⟩ hE hG (cX10_canC l D cy base ad n A J 2 (by first | assumption | omega)) (cwV 1 hts gX10_addPoint_X10_can rfl rfl rfl (by decide +kernel) ⟨Nat.le_of_ble_eq_true rfl, Nat.le_of_ble_eq_true rfl⟩) (by omega) rfl rfl rfl hl.1 rfl (Nat.le_of_ble_eq_true rfl) dX10_addPoint_118 ⟨Nat.zero_le _, Nat.zero_le _⟩ (fun v_ A118 J118 H locs hp hG => ?_)
            rcases hp with ⟨rfl, rfl, rfl, hC_118⟩ | ⟨rfl, rfl, rfl, hC_118⟩
            · exact absurd hC_118 (by decide)
            · refine W.eq (g2 := F0 mM 121 ls [.int (nI 0)]) rfl ?_
              refine lv_if_ne (tgt := 126) hx hb dX10_addPoint_121 (by decide) (fun c121 => ?_) (fun c121 => ?_)
              · skip
                exact absurd c121 (by decide)
              · skip
                refine lv_iconst (v := nI 0) hx hb dX10_addPoint_124 (by decide) ?_
                exact g_iret hx hb hr hlocks hG (by first | exact Or.inl ⟨rfl, rfl, rfl, (hbq.resolve_left (fun h9 => by omega)).2⟩ | exact Or.inr (Or.inl ⟨rfl, rfl, rfl, (hbq.resolve_right (fun h9 => by omega)).2, rq, ((hrq.resolve_right (fun h9 => by omega)).2).2, by omega⟩)) dX10_addPoint_125
          · skip
            have c103 : ¬ (rq = (-1)) := fun z9 => c103 ((cmp_eq (zI_toInt (by omega) (by omega)) (zI_toInt (by omega) (by omega))).mpr z9)
            refine lv_aload_n hx hb dX10_addPoint_106 rfl (lv_at hl 2 rfl) ?_
            refine g_get (C := RX10) (T := TX10) (NN := 35) (ci := 10) hx hb hts hinX10 hown hE hG (k := 28) (by omega) rfl rfl 9 (by decide) (hts (.fieldLink RX10 104 "CommutatorModel" "words" "I") (List.mem_of_getElem? (i := 2) rfl)) rfl (v := .int (A 28 9)) rfl dX10_addPoint_107 ?_
            refine g_top (y := zI (G 28 9)) (hM 28 9 (by omega) (by omega) (by omega)) ?_
            refine lv_if_le (tgt := 117) hx hb dX10_addPoint_110 (by decide) (fun c110 => ?_) (fun c110 => ?_)
            · skip
              have c110 : (zI (G 28 9)) ≤ nI 0 := c110
              have c110 : (G 28 9) ≤ ((0 : Nat) : Int) := (cmp_le (zI_toInt (by omega) (by omega)) (nI_toInt (by omega))).mp c110
              refine lv_iconst (v := nI 0) hx hb dX10_addPoint_117 (by decide) ?_
              refine g_callV (As := [.int (nI 0)]) (rest := []) (r := (RX10, TX10, 35)) ⟨hx, hb, hml, hown, hts⟩ hE hG (cX10_canC l D cy base ad n A J 0 (by first | assumption | omega)) (cwV 1 hts gX10_addPoint_X10_can rfl rfl rfl (by decide +kernel) ⟨Nat.le_of_ble_eq_true rfl, Nat.le_of_ble_eq_true rfl⟩) (by omega) rfl rfl rfl hl.1 rfl (Nat.le_of_ble_eq_true rfl) dX10_addPoint_118 ⟨Nat.zero_le _, Nat.zero_le _⟩ (fun v_ A118 J118 H locs hp hG => ?_)
              rcases hp with ⟨rfl, rfl, rfl, hC_118⟩ | ⟨rfl, rfl, rfl, hC_118⟩
              · refine W.eq (g2 := F0 mM 121 ls [.int (nI 1)]) rfl ?_
                refine lv_if_ne (tgt := 126) hx hb dX10_addPoint_121 (by decide) (fun c121 => ?_) (fun c121 => ?_)
                · skip
                  refine lv_aload_n hx hb dX10_addPoint_126 rfl (lv_at hl 2 rfl) ?_
                  refine g_get (C := RX10) (T := TX10) (NN := 35) (ci := 10) hx hb hts hinX10 hown hE hG (k := 28) (by omega) rfl rfl 1 (by decide) (hts (.fieldLink RX10 7 "CommutatorModel" "width" "[I") (List.mem_of_getElem? (i := 3) rfl)) rfl (v := .ref (ad 29)) rfl dX10_addPoint_127 ?_
                  refine lv_aload_n hx hb dX10_addPoint_130 rfl (lv_at hl 2 rfl) ?_
                  refine g_get (C := RX10) (T := TX10) (NN := 35) (ci := 10) hx hb hts hinX10 hown hE hG (k := 28) (by omega) rfl rfl 0 (by decide) (hts (.fieldLink RX10 81 "CommutatorModel" "points" "I") (List.mem_of_getElem? (i := 1) rfl)) rfl (v := .int (A 28 0)) rfl dX10_addPoint_131 ?_
                  refine g_top (y := zI (G 28 0)) (hM 28 0 (by omega) (by omega) (by omega)) ?_
                  refine lv_iload_n hx hb dX10_addPoint_134 rfl (lv_at hl 3 rfl) ?_
                  refine g_iast hx hb hE hG (k := 29) (by omega) (fun _ => rfl) ((G 28 0).toNat) (zI_nat (by omega)) (by omega) (by omega) dX10_addPoint_135 (fun H locs hG => ?_)
                  refine lv_aload_n hx hb dX10_addPoint_136 rfl (lv_at hl 2 rfl) ?_
                  refine g_get (C := RX10) (T := TX10) (NN := 35) (ci := 10) hx hb hts hinX10 hown hE hG (k := 28) (by omega) rfl rfl 2 (by decide) (hts (.fieldLink RX10 13 "CommutatorModel" "convention" "[I") (List.mem_of_getElem? (i := 4) rfl)) rfl (v := .ref (ad 30)) rfl dX10_addPoint_137 ?_
                  refine lv_aload_n hx hb dX10_addPoint_140 rfl (lv_at hl 2 rfl) ?_
                  refine g_get (C := RX10) (T := TX10) (NN := 35) (ci := 10) hx hb hts hinX10 hown hE hG (k := 28) (by omega) rfl rfl 0 (by decide) (hts (.fieldLink RX10 81 "CommutatorModel" "points" "I") (List.mem_of_getElem? (i := 1) rfl)) rfl (v := .int (A 28 0)) rfl dX10_addPoint_141 ?_
                  refine g_top (y := zI (G 28 0)) (hM 28 0 (by omega) (by omega) (by omega)) ?_
                  refine lv_iload_n hx hb dX10_addPoint_144 rfl (lv_at hl 4 rfl) ?_
                  refine g_iast hx hb hE hG (k := 30) (by omega) (fun _ => rfl) ((G 28 0).toNat) (zI_nat (by omega)) (by omega) (by omega) dX10_addPoint_145 (fun H locs hG => ?_)
                  refine lv_aload_n hx hb dX10_addPoint_146 rfl (lv_at hl 2 rfl) ?_
                  refine g_get (C := RX10) (T := TX10) (NN := 35) (ci := 10) hx hb hts hinX10 hown hE hG (k := 28) (by omega) rfl rfl 3 (by decide) (hts (.fieldLink RX10 16 "CommutatorModel" "period" "[I") (List.mem_of_getElem? (i := 5) rfl)) rfl (v := .ref (ad 31)) rfl dX10_addPoint_147 ?_
                  refine lv_aload_n hx hb dX10_addPoint_150 rfl (lv_at hl 2 rfl) ?_
                  refine g_get (C := RX10) (T := TX10) (NN := 35) (ci := 10) hx hb hts hinX10 hown hE hG (k := 28) (by omega) rfl rfl 0 (by decide) (hts (.fieldLink RX10 81 "CommutatorModel" "points" "I") (List.mem_of_getElem? (i := 1) rfl)) rfl (v := .int (A 28 0)) rfl dX10_addPoint_151 ?_
                  refine g_top (y := zI (G 28 0)) (hM 28 0 (by omega) (by omega) (by omega)) ?_
                  refine lv_iload_n hx hb dX10_addPoint_154 rfl (lv_at hl 5 rfl) ?_
                  refine g_iast hx hb hE hG (k := 31) (by omega) (fun _ => rfl) ((G 28 0).toNat) (zI_nat (by omega)) (by omega) (by omega) dX10_addPoint_155 (fun H locs hG => ?_)
                  refine lv_aload_n hx hb dX10_addPoint_156 rfl (lv_at hl 2 rfl) ?_
                  refine g_get (C := RX10) (T := TX10) (NN := 35) (ci := 10) hx hb hts hinX10 hown hE hG (k := 28) (by omega) rfl rfl 4 (by decide) (hts (.fieldLink RX10 19 "CommutatorModel" "samplesEach" "[I") (List.mem_of_getElem? (i := 6) rfl)) rfl (v := .ref (ad 32)) rfl dX10_addPoint_157 ?_
                  refine lv_aload_n hx hb dX10_addPoint_160 rfl (lv_at hl 2 rfl) ?_
                  refine g_get (C := RX10) (T := TX10) (NN := 35) (ci := 10) hx hb hts hinX10 hown hE hG (k := 28) (by omega) rfl rfl 0 (by decide) (hts (.fieldLink RX10 81 "CommutatorModel" "points" "I") (List.mem_of_getElem? (i := 1) rfl)) rfl (v := .int (A 28 0)) rfl dX10_addPoint_161 ?_
                  refine g_top (y := zI (G 28 0)) (hM 28 0 (by omega) (by omega) (by omega)) ?_
                  have LLq174 : ∀  (eq : Nat) (heq : eq = tq + 1) (H : Heap) (locs : List Loc) (ls : Array Slot), gH D base sM ad (50 + 2 * n) (gw cy ad n (gu (gu (gu (gu A 28 34 (nI 0)) 29 ((G 28 0).toNat) (zI wq)) 30 ((G 28 0).toNat) (zI cq)) 31 ((G 28 0).toNat) (zI pq)) J) H locs → lv_has ls 7 [(6, .int (zI rq)), (5, .int (nI bq)), (0, .ref (ad 28)), (1, .int (zI wq)), (2, .int (zI cq)), (3, .int (zI pq)), (4, .int (nI tq))] → W pM l eM ({ frames := 4, cells := 0, slots := 0, locals := 101 } : Room) sM mM aM bM methM cM H locs 0 0 (MQ bM (gPost D cy base ad n (PX10_addPoint ad A J G wq cq pq tq)) aM sM 0 0 (fun q => base ≤ q)) (F0 mM 174 ls [.int (nI eq), .int (zI (G 28 0)), .ref (ad 32)]) := by
                    intro eq heq H locs ls hG hl
                    subst heq
                    refine g_iast hx hb hE hG (k := 32) (by omega) (fun _ => rfl) ((G 28 0).toNat) (zI_nat (by omega)) (by omega) (by omega) dX10_addPoint_174 (fun H locs hG => ?_)
                    refine lv_aload_n hx hb dX10_addPoint_175 rfl (lv_at hl 2 rfl) ?_
                    refine g_get (C := RX10) (T := TX10) (NN := 35) (ci := 10) hx hb hts hinX10 hown hE hG (k := 28) (by omega) rfl rfl 5 (by decide) (hts (.fieldLink RX10 22 "CommutatorModel" "phase" "[I") (List.mem_of_getElem? (i := 7) rfl)) rfl (v := .ref (ad 33)) rfl dX10_addPoint_176 ?_
                    refine lv_aload_n hx hb dX10_addPoint_179 rfl (lv_at hl 2 rfl) ?_
                    refine g_get (C := RX10) (T := TX10) (NN := 35) (ci := 10) hx hb hts hinX10 hown hE hG (k := 28) (by omega) rfl rfl 0 (by decide) (hts (.fieldLink RX10 81 "CommutatorModel" "points" "I") (List.mem_of_getElem? (i := 1) rfl)) rfl (v := .int (A 28 0)) rfl dX10_addPoint_180 ?_
                    refine g_top (y := zI (G 28 0)) (hM 28 0 (by omega) (by omega) (by omega)) ?_
                    refine lv_iload hx hb dX10_addPoint_183 (lv_at hl 0 rfl) ?_
                    refine lv_bipush (v := nI 100) hx hb dX10_addPoint_185 (by decide) ?_
                    refine lv_idiv hx hb dX10_addPoint_187 (by decide) ?_
                    refine g_top (y := zI (rq / 100)) (zI_div (b := 100) (by omega) (by omega) (by omega) (by omega)) ?_
                    refine g_iast hx hb hE hG (k := 33) (by omega) (fun _ => rfl) ((G 28 0).toNat) (zI_nat (by omega)) (by omega) (by omega) dX10_addPoint_188 (fun H locs hG => ?_)
                    refine lv_aload_n hx hb dX10_addPoint_189 rfl (lv_at hl 2 rfl) ?_
                    refine g_get (C := RX10) (T := TX10) (NN := 35) (ci := 10) hx hb hts hinX10 hown hE hG (k := 28) (by omega) rfl rfl 6 (by decide) (hts (.fieldLink RX10 25 "CommutatorModel" "offset" "[I") (List.mem_of_getElem? (i := 8) rfl)) rfl (v := .ref (ad 34)) rfl dX10_addPoint_190 ?_
                    refine lv_aload_n hx hb dX10_addPoint_193 rfl (lv_at hl 2 rfl) ?_
                    refine g_get (C := RX10) (T := TX10) (NN := 35) (ci := 10) hx hb hts hinX10 hown hE hG (k := 28) (by omega) rfl rfl 0 (by decide) (hts (.fieldLink RX10 81 "CommutatorModel" "points" "I") (List.mem_of_getElem? (i := 1) rfl)) rfl (v := .int (A 28 0)) rfl dX10_addPoint_194 ?_
                    refine g_top (y := zI (G 28 0)) (hM 28 0 (by omega) (by omega) (by omega)) ?_
                    refine lv_iload hx hb dX10_addPoint_197 (lv_at hl 0 rfl) ?_
                    refine lv_bipush (v := nI 100) hx hb dX10_addPoint_199 (by decide) ?_
                    refine lv_irem hx hb dX10_addPoint_201 (by decide) ?_
                    refine g_top (y := zI (rq % 100)) (zI_rem (b := 100) (by omega) (by omega) (by omega) (by omega)) ?_
                    refine g_iast hx hb hE hG (k := 34) (by omega) (fun _ => rfl) ((G 28 0).toNat) (zI_nat (by omega)) (by omega) (by omega) dX10_addPoint_202 (fun H locs hG => ?_)
                    refine lv_aload_n hx hb dX10_addPoint_203 rfl (lv_at hl 2 rfl) ?_
                    refine lv_dup hx hb dX10_addPoint_204 rfl ?_
                    refine g_get (C := RX10) (T := TX10) (NN := 35) (ci := 10) hx hb hts hinX10 hown hE hG (k := 28) (by omega) rfl rfl 0 (by decide) (hts (.fieldLink RX10 81 "CommutatorModel" "points" "I") (List.mem_of_getElem? (i := 1) rfl)) rfl (v := .int (A 28 0)) rfl dX10_addPoint_205 ?_
                    refine g_top (y := zI (G 28 0)) (hM 28 0 (by omega) (by omega) (by omega)) ?_
                    refine lv_iconst (v := nI 1) hx hb dX10_addPoint_208 (by decide) ?_
                    refine lv_iadd hx hb dX10_addPoint_209 ?_
                    refine g_top (y := zI ((G 28 0) + 1)) (zI_add_in _ _) ?_
                    refine g_puti (C := RX10) (T := TX10) (NN := 35) (ci := 10) hx hb hts hinX10 tyX10 tyX10_ok nmX10 hown hE hG (k := 28) (by omega) rfl rfl 0 (by decide) (hts (.fieldLink RX10 81 "CommutatorModel" "points" "I") (List.mem_of_getElem? (i := 1) rfl)) rfl rfl (ty := .int) (v := zI ((G 28 0) + 1)) (by decide +kernel) rfl rfl (Nat.le_of_ble_eq_true rfl) rfl dX10_addPoint_210 (fun H locs hG => ?_)
                    refine lv_aload_n hx hb dX10_addPoint_213 rfl (lv_at hl 2 rfl) ?_
                    refine g_get (C := RX10) (T := TX10) (NN := 35) (ci := 10) hx hb hts hinX10 hown hE hG (k := 28) (by omega) rfl rfl 0 (by decide) (hts (.fieldLink RX10 81 "CommutatorModel" "points" "I") (List.mem_of_getElem? (i := 1) rfl)) rfl (v := .int (zI ((G 28 0) + 1))) rfl dX10_addPoint_214 ?_
                    refine lv_iconst (v := nI 1) hx hb dX10_addPoint_217 (by decide) ?_
                    refine lv_isub hx hb dX10_addPoint_218 ?_
                    refine g_top (y := zI (((G 28 0) + 1) - 1)) (zI_sub_in _ _) ?_
                    exact g_iret hx hb hr hlocks hG (Or.inr (Or.inr ⟨rq, congrArg (fun q9 => some (Value.int (zI q9))) (by omega), rfl, rfl, (hbq.resolve_right (fun h9 => by omega)).2, ((hrq.resolve_right (fun h9 => by omega)).2).2, by omega, by omega, by omega⟩)) dX10_addPoint_219
                  refine lv_iload hx hb dX10_addPoint_164 (lv_at hl 6 rfl) ?_
                  refine lv_if_eq (tgt := 173) hx hb dX10_addPoint_166 (by decide) (fun c166 => ?_) (fun c166 => ?_)
                  · skip
                    have c166 : (nI tq) = nI 0 := c166
                    have c166 : tq = 0 := (nI_eq (by omega) (by omega)).mp c166
                    refine lv_iconst (v := nI 1) hx hb dX10_addPoint_173 (by decide) ?_
                    exact LLq174 1 (by omega) _ _ _ hG (lv_sub hl [0, 1, 2, 3, 4, 5, 6] rfl)
                  · skip
                    have c166 : ¬ ((nI tq) = nI 0) := c166
                    have c166 : ¬ (tq = 0) := fun z9 => c166 ((nI_eq (by omega) (by omega)).mpr z9)
                    refine lv_iconst (v := nI 2) hx hb dX10_addPoint_169 (by decide) ?_
                    refine lv_goto (tgt := 174) hx hb dX10_addPoint_170 (by decide) ?_
                    exact LLq174 2 (by omega) _ _ _ hG (lv_sub hl [0, 1, 2, 3, 4, 5, 6] rfl)
                · skip
                  exact absurd c121 (by decide)
              · exact absurd hC_118 (by decide)
            · skip
              have c110 : ¬ ((zI (G 28 9)) ≤ nI 0) := c110
              have c110 : ¬ ((G 28 9) ≤ ((0 : Nat) : Int)) := fun z9 => c110 ((cmp_le (zI_toInt (by omega) (by omega)) (nI_toInt (by omega))).mpr z9)
              refine lv_iconst (v := nI 2) hx hb dX10_addPoint_113 (by decide) ?_
              refine lv_goto (tgt := 118) hx hb dX10_addPoint_114 (by decide) ?_
              refine g_callV (As := [.int (nI 2)]) (rest := []) (r := (RX10, TX10, 35)) ⟨hx, hb, hml, hown, hts⟩ hE hG (cX10_canC l D cy base ad n A J 2 (by first | assumption | omega)) (cwV 1 hts gX10_addPoint_X10_can rfl rfl rfl (by decide +kernel) ⟨Nat.le_of_ble_eq_true rfl, Nat.le_of_ble_eq_true rfl⟩) (by omega) rfl rfl rfl hl.1 rfl (Nat.le_of_ble_eq_true rfl) dX10_addPoint_118 ⟨Nat.zero_le _, Nat.zero_le _⟩ (fun v_ A118 J118 H locs hp hG => ?_)
              rcases hp with ⟨rfl, rfl, rfl, hC_118⟩ | ⟨rfl, rfl, rfl, hC_118⟩
              · exact absurd hC_118 (by decide)
              · refine W.eq (g2 := F0 mM 121 ls [.int (nI 0)]) rfl ?_
                refine lv_if_ne (tgt := 126) hx hb dX10_addPoint_121 (by decide) (fun c121 => ?_) (fun c121 => ?_)
                · skip
                  exact absurd c121 (by decide)
                · skip
                  refine lv_iconst (v := nI 0) hx hb dX10_addPoint_124 (by decide) ?_
                  exact g_iret hx hb hr hlocks hG (by first | exact Or.inl ⟨rfl, rfl, rfl, (hbq.resolve_left (fun h9 => by omega)).2⟩ | exact Or.inr (Or.inl ⟨rfl, rfl, rfl, (hbq.resolve_right (fun h9 => by omega)).2, rq, ((hrq.resolve_right (fun h9 => by omega)).2).2, by omega⟩)) dX10_addPoint_125
      · skip
        have c84 : (nI bq) = nI 0 := c84
        have c84 : bq = 0 := (nI_eq (by omega) (by omega)).mp c84
        refine lv_iconst (v := nI 1) hx hb dX10_addPoint_87 (by decide) ?_
        refine lv_goto (tgt := 118) hx hb dX10_addPoint_88 (by decide) ?_
        refine g_callV (As := [.int (nI 1)]) (rest := []) (r := (RX10, TX10, 35)) ⟨hx, hb, hml, hown, hts⟩ hE hG (cX10_canC l D cy base ad n A J 1 (by first | assumption | omega)) (cwV 1 hts gX10_addPoint_X10_can rfl rfl rfl (by decide +kernel) ⟨Nat.le_of_ble_eq_true rfl, Nat.le_of_ble_eq_true rfl⟩) (by omega) rfl rfl rfl hl.1 rfl (Nat.le_of_ble_eq_true rfl) dX10_addPoint_118 ⟨Nat.zero_le _, Nat.zero_le _⟩ (fun v_ A118 J118 H locs hp hG => ?_)
        rcases hp with ⟨rfl, rfl, rfl, hC_118⟩ | ⟨rfl, rfl, rfl, hC_118⟩
        · exact absurd hC_118 (by decide)
        · refine W.eq (g2 := F0 mM 121 ls [.int (nI 0)]) rfl ?_
          refine lv_if_ne (tgt := 126) hx hb dX10_addPoint_121 (by decide) (fun c121 => ?_) (fun c121 => ?_)
          · skip
            exact absurd c121 (by decide)
          · skip
            refine lv_iconst (v := nI 0) hx hb dX10_addPoint_124 (by decide) ?_
            exact g_iret hx hb hr hlocks hG (by first | exact Or.inl ⟨rfl, rfl, rfl, (hbq.resolve_left (fun h9 => by omega)).2⟩ | exact Or.inr (Or.inl ⟨rfl, rfl, rfl, (hbq.resolve_right (fun h9 => by omega)).2, rq, ((hrq.resolve_right (fun h9 => by omega)).2).2, by omega⟩)) dX10_addPoint_125
    refine lv_iload hx hb dX10_addPoint_54 (lv_at hl 0 rfl) ?_
    refine lv_if_eq (tgt := 78) hx hb dX10_addPoint_56 (by decide) (fun c56 => ?_) (fun c56 => ?_)
    · skip
      have c56 : (nI bq) = nI 0 := c56
      have c56 : bq = 0 := (nI_eq (by omega) (by omega)).mp c56
      refine lv_iconst (v := zI (-1)) hx hb dX10_addPoint_78 (by decide) ?_
      exact LLq79 (-1) (by first | exact Or.inr ⟨by omega, (hbq.resolve_left (fun h9 => by omega)).2, rfl⟩ | exact Or.inl ⟨by omega, (hbq.resolve_right (fun h9 => by omega)).2, hF_72⟩) _ _ _ hG (lv_sub hl [0, 1, 2, 3, 4, 5] rfl)
    · skip
      have c56 : ¬ ((nI bq) = nI 0) := c56
      have c56 : ¬ (bq = 0) := fun z9 => c56 ((nI_eq (by omega) (by omega)).mpr z9)
      have hg9 : mGood wq cq pq tq := (hbq.resolve_right (fun h9 => by omega)).2
      refine lv_aload_n hx hb dX10_addPoint_59 rfl (lv_at hl 1 rfl) ?_
      refine lv_iload_n hx hb dX10_addPoint_60 rfl (lv_at hl 2 rfl) ?_
      refine lv_iload_n hx hb dX10_addPoint_61 rfl (lv_at hl 4 rfl) ?_
      have LLq72 : ∀  (eq : Nat) (heq : eq = tq + 1) (H : Heap) (locs : List Loc) (ls : Array Slot), gH D base sM ad (50 + 2 * n) (gw cy ad n A J) H locs → lv_has ls 7 [(5, .int (nI bq)), (0, .ref (ad 28)), (1, .int (zI wq)), (2, .int (zI cq)), (3, .int (zI pq)), (4, .int (nI tq))] → W pM l eM ({ frames := 4, cells := 0, slots := 0, locals := 101 } : Room) sM mM aM bM methM cM H locs 0 0 (MQ bM (gPost D cy base ad n (PX10_addPoint ad A J G wq cq pq tq)) aM sM 0 0 (fun q => base ≤ q)) (F0 mM 72 ls [.int (nI eq), .int (zI pq), .int (zI wq), .ref (ad 28)]) := by
        intro eq heq H locs ls hG hl
        subst heq
        refine g_callV (As := [.int (zI wq), .int (zI pq), .int (nI (tq + 1))]) (rest := []) (r := (RX10, TX10, 35)) ⟨hx, hb, hml, hown, hts⟩ hE hG (cX10_firstPlaceC l D cy base ad n A J G wq pq ((tq + 1 : Nat) : Int) (by first | exact hM | exact hM.st | exact hM.pa | exact hM.th _ | exact (hM.th _).st | exact (hM.th _).pa | exact (hM.th _).th _ | exact ((hM.th _).th _).st) (by first | assumption | omega) (by first | assumption | omega) (by first | assumption | omega) (by first | assumption | omega)) (cwV 3 hts gX10_addPoint_X10_firstPlace rfl rfl rfl (by decide +kernel) ⟨Nat.le_of_ble_eq_true rfl, Nat.le_of_ble_eq_true rfl⟩) (by omega) rfl rfl rfl hl.1 rfl (Nat.le_of_ble_eq_true rfl) dX10_addPoint_72 ⟨Nat.zero_le _, Nat.zero_le _⟩ (fun v_ A72 J72 H locs hp hG => ?_)
        obtain ⟨rq_72, rfl, rfl, rfl, hF_72⟩ := hp
        refine W.eq (g2 := F0 mM 75 ls [.int (zI rq_72)]) rfl ?_
        refine lv_goto (tgt := 79) hx hb dX10_addPoint_75 (by decide) ?_
        exact LLq79 rq_72 (by first | exact Or.inr ⟨by omega, (hbq.resolve_left (fun h9 => by omega)).2, rfl⟩ | exact Or.inl ⟨by omega, (hbq.resolve_right (fun h9 => by omega)).2, hF_72⟩) _ _ _ hG (lv_sub hl [0, 1, 2, 3, 4, 5] rfl)
      refine lv_iload hx hb dX10_addPoint_62 (lv_at hl 5 rfl) ?_
      refine lv_if_eq (tgt := 71) hx hb dX10_addPoint_64 (by decide) (fun c64 => ?_) (fun c64 => ?_)
      · skip
        have c64 : (nI tq) = nI 0 := c64
        have c64 : tq = 0 := (nI_eq (by omega) (by omega)).mp c64
        refine lv_iconst (v := nI 1) hx hb dX10_addPoint_71 (by decide) ?_
        exact LLq72 1 (by omega) _ _ _ hG (lv_sub hl [0, 1, 2, 3, 4, 5] rfl)
      · skip
        have c64 : ¬ ((nI tq) = nI 0) := c64
        have c64 : ¬ (tq = 0) := fun z9 => c64 ((nI_eq (by omega) (by omega)).mpr z9)
        refine lv_iconst (v := nI 2) hx hb dX10_addPoint_67 (by decide) ?_
        refine lv_goto (tgt := 72) hx hb dX10_addPoint_68 (by decide) ?_
        exact LLq72 2 (by omega) _ _ _ hG (lv_sub hl [0, 1, 2, 3, 4, 5] rfl)
  refine lv_iload_n hx hb dX10_addPoint_0 rfl (lv_at hl 2 rfl) ?_
  refine lv_iconst (v := nI 0) hx hb dX10_addPoint_1 (by decide) ?_
  refine lv_iconst (v := nI 3) hx hb dX10_addPoint_2 (by decide) ?_
  refine g_callS (As := [.int (zI cq), .int (nI 0), .int (nI 3)]) (rest := []) ⟨hx, hb, hml, hown, hts⟩ hE hG (cX10_isInC l D cy base ad n A J (zI cq) 0 3 (by first | assumption | omega) (by first | assumption | omega) (by first | assumption | omega) (by first | assumption | omega)) (va_cwS 3 hts gX10_addPoint_X10_isIn rfl rfl rfl (by decide +kernel) ⟨Nat.le_of_ble_eq_true rfl, Nat.le_of_ble_eq_true rfl⟩) rfl hl.1 rfl (Nat.le_of_ble_eq_true rfl) dX10_addPoint_3 ⟨Nat.zero_le _, Nat.zero_le _⟩ (fun v_ A3 J3 H locs hp hG => ?_)
  rcases hp with ⟨rfl, rfl, rfl, hC_3⟩ | ⟨rfl, rfl, rfl, hC_3⟩
  · refine W.eq (g2 := F0 mM 6 ls [.int (nI 1)]) rfl ?_
    refine lv_if_eq (tgt := 51) hx hb dX10_addPoint_6 (by decide) (fun c6 => ?_) (fun c6 => ?_)
    · skip
      exact absurd c6 (by decide)
    · skip
      refine lv_iload_n hx hb dX10_addPoint_9 rfl (lv_at hl 1 rfl) ?_
      refine lv_iload_n hx hb dX10_addPoint_10 rfl (lv_at hl 2 rfl) ?_
      refine lv_if_ne (tgt := 18) hx hb dX10_addPoint_11 (by decide) (fun c11 => ?_) (fun c11 => ?_)
      · skip
        have c11 : ¬ ((zI cq) = nI 0) := c11
        have c11 : ¬ (cq = ((0 : Nat) : Int)) := fun z9 => c11 ((cmp_eq (zI_toInt (by omega) (by omega)) (nI_toInt (by omega))).mpr z9)
        refine lv_iconst (v := nI 2) hx hb dX10_addPoint_18 (by decide) ?_
        refine lv_bipush (v := nI 12) hx hb dX10_addPoint_19 (by decide) ?_
        refine g_callS (As := [.int (zI wq), .int (nI 2), .int (nI 12)]) (rest := []) ⟨hx, hb, hml, hown, hts⟩ hE hG (cX10_isInC l D cy base ad n A J (zI wq) 2 12 (by first | assumption | omega) (by first | assumption | omega) (by first | assumption | omega) (by first | assumption | omega)) (va_cwS 3 hts gX10_addPoint_X10_isIn rfl rfl rfl (by decide +kernel) ⟨Nat.le_of_ble_eq_true rfl, Nat.le_of_ble_eq_true rfl⟩) rfl hl.1 rfl (Nat.le_of_ble_eq_true rfl) dX10_addPoint_21 ⟨Nat.zero_le _, Nat.zero_le _⟩ (fun v_ A21 J21 H locs hp hG => ?_)
        rcases hp with ⟨rfl, rfl, rfl, hC_21⟩ | ⟨rfl, rfl, rfl, hC_21⟩
        · refine W.eq (g2 := F0 mM 24 ls [.int (nI 1)]) rfl ?_
          refine lv_if_eq (tgt := 51) hx hb dX10_addPoint_24 (by decide) (fun c24 => ?_) (fun c24 => ?_)
          · skip
            exact absurd c24 (by decide)
          · skip
            refine lv_iload_n hx hb dX10_addPoint_27 rfl (lv_at hl 3 rfl) ?_
            refine lv_iconst (v := nI 1) hx hb dX10_addPoint_28 (by decide) ?_
            refine lv_icmp_eq (tgt := 47) hx hb dX10_addPoint_29 (by decide) (fun c29 => ?_) (fun c29 => ?_)
            · skip
              have c29 : pq = ((1 : Nat) : Int) := (cmp_eq (zI_toInt (by omega) (by omega)) (nI_toInt (by omega))).mp c29
              refine lv_iconst (v := nI 1) hx hb dX10_addPoint_47 (by decide) ?_
              refine lv_goto (tgt := 52) hx hb dX10_addPoint_48 (by decide) ?_
              exact LLq52 1 (by unfold mGood; omega) _ _ _ hG (lv_sub hl [0, 1, 2, 3, 4] rfl)
            · skip
              have c29 : ¬ (pq = ((1 : Nat) : Int)) := fun z9 => c29 ((cmp_eq (zI_toInt (by omega) (by omega)) (nI_toInt (by omega))).mpr z9)
              refine lv_iload hx hb dX10_addPoint_32 (lv_at hl 4 rfl) ?_
              refine lv_if_ne (tgt := 51) hx hb dX10_addPoint_34 (by decide) (fun c34 => ?_) (fun c34 => ?_)
              · skip
                have c34 : ¬ ((nI tq) = nI 0) := c34
                have c34 : ¬ (tq = 0) := fun z9 => c34 ((nI_eq (by omega) (by omega)).mpr z9)
                refine lv_iconst (v := nI 0) hx hb dX10_addPoint_51 (by decide) ?_
                exact LLq52 0 (by unfold mGood; omega) _ _ _ hG (lv_sub hl [0, 1, 2, 3, 4] rfl)
              · skip
                have c34 : (nI tq) = nI 0 := c34
                have c34 : tq = 0 := (nI_eq (by omega) (by omega)).mp c34
                refine lv_iload_n hx hb dX10_addPoint_37 rfl (lv_at hl 3 rfl) ?_
                refine lv_iconst (v := nI 2) hx hb dX10_addPoint_38 (by decide) ?_
                refine lv_icmp_eq (tgt := 47) hx hb dX10_addPoint_39 (by decide) (fun c39 => ?_) (fun c39 => ?_)
                · skip
                  have c39 : pq = ((2 : Nat) : Int) := (cmp_eq (zI_toInt (by omega) (by omega)) (nI_toInt (by omega))).mp c39
                  refine lv_iconst (v := nI 1) hx hb dX10_addPoint_47 (by decide) ?_
                  refine lv_goto (tgt := 52) hx hb dX10_addPoint_48 (by decide) ?_
                  exact LLq52 1 (by unfold mGood; omega) _ _ _ hG (lv_sub hl [0, 1, 2, 3, 4] rfl)
                · skip
                  have c39 : ¬ (pq = ((2 : Nat) : Int)) := fun z9 => c39 ((cmp_eq (zI_toInt (by omega) (by omega)) (nI_toInt (by omega))).mpr z9)
                  refine lv_iload_n hx hb dX10_addPoint_42 rfl (lv_at hl 3 rfl) ?_
                  refine lv_iconst (v := nI 4) hx hb dX10_addPoint_43 (by decide) ?_
                  refine lv_icmp_ne (tgt := 51) hx hb dX10_addPoint_44 (by decide) (fun c44 => ?_) (fun c44 => ?_)
                  · skip
                    have c44 : ¬ (pq = ((4 : Nat) : Int)) := fun z9 => c44 ((cmp_eq (zI_toInt (by omega) (by omega)) (nI_toInt (by omega))).mpr z9)
                    refine lv_iconst (v := nI 0) hx hb dX10_addPoint_51 (by decide) ?_
                    exact LLq52 0 (by unfold mGood; omega) _ _ _ hG (lv_sub hl [0, 1, 2, 3, 4] rfl)
                  · skip
                    have c44 : pq = ((4 : Nat) : Int) := (cmp_eq (zI_toInt (by omega) (by omega)) (nI_toInt (by omega))).mp c44
                    refine lv_iconst (v := nI 1) hx hb dX10_addPoint_47 (by decide) ?_
                    refine lv_goto (tgt := 52) hx hb dX10_addPoint_48 (by decide) ?_
                    exact LLq52 1 (by unfold mGood; omega) _ _ _ hG (lv_sub hl [0, 1, 2, 3, 4] rfl)
        · refine W.eq (g2 := F0 mM 24 ls [.int (nI 0)]) rfl ?_
          refine lv_if_eq (tgt := 51) hx hb dX10_addPoint_24 (by decide) (fun c24 => ?_) (fun c24 => ?_)
          · skip
            refine lv_iconst (v := nI 0) hx hb dX10_addPoint_51 (by decide) ?_
            exact LLq52 0 (by unfold mGood; omega) _ _ _ hG (lv_sub hl [0, 1, 2, 3, 4] rfl)
          · skip
            exact absurd c24 (by decide)
      · skip
        have c11 : (zI cq) = nI 0 := c11
        have c11 : cq = ((0 : Nat) : Int) := (cmp_eq (zI_toInt (by omega) (by omega)) (nI_toInt (by omega))).mp c11
        refine lv_iconst (v := nI 1) hx hb dX10_addPoint_14 (by decide) ?_
        refine lv_goto (tgt := 19) hx hb dX10_addPoint_15 (by decide) ?_
        refine lv_bipush (v := nI 12) hx hb dX10_addPoint_19 (by decide) ?_
        refine g_callS (As := [.int (zI wq), .int (nI 1), .int (nI 12)]) (rest := []) ⟨hx, hb, hml, hown, hts⟩ hE hG (cX10_isInC l D cy base ad n A J (zI wq) 1 12 (by first | assumption | omega) (by first | assumption | omega) (by first | assumption | omega) (by first | assumption | omega)) (va_cwS 3 hts gX10_addPoint_X10_isIn rfl rfl rfl (by decide +kernel) ⟨Nat.le_of_ble_eq_true rfl, Nat.le_of_ble_eq_true rfl⟩) rfl hl.1 rfl (Nat.le_of_ble_eq_true rfl) dX10_addPoint_21 ⟨Nat.zero_le _, Nat.zero_le _⟩ (fun v_ A21 J21 H locs hp hG => ?_)
        rcases hp with ⟨rfl, rfl, rfl, hC_21⟩ | ⟨rfl, rfl, rfl, hC_21⟩
        · refine W.eq (g2 := F0 mM 24 ls [.int (nI 1)]) rfl ?_
          refine lv_if_eq (tgt := 51) hx hb dX10_addPoint_24 (by decide) (fun c24 => ?_) (fun c24 => ?_)
          · skip
            exact absurd c24 (by decide)
          · skip
            refine lv_iload_n hx hb dX10_addPoint_27 rfl (lv_at hl 3 rfl) ?_
            refine lv_iconst (v := nI 1) hx hb dX10_addPoint_28 (by decide) ?_
            refine lv_icmp_eq (tgt := 47) hx hb dX10_addPoint_29 (by decide) (fun c29 => ?_) (fun c29 => ?_)
            · skip
              have c29 : pq = ((1 : Nat) : Int) := (cmp_eq (zI_toInt (by omega) (by omega)) (nI_toInt (by omega))).mp c29
              refine lv_iconst (v := nI 1) hx hb dX10_addPoint_47 (by decide) ?_
              refine lv_goto (tgt := 52) hx hb dX10_addPoint_48 (by decide) ?_
              exact LLq52 1 (by unfold mGood; omega) _ _ _ hG (lv_sub hl [0, 1, 2, 3, 4] rfl)
            · skip
              have c29 : ¬ (pq = ((1 : Nat) : Int)) := fun z9 => c29 ((cmp_eq (zI_toInt (by omega) (by omega)) (nI_toInt (by omega))).mpr z9)
              refine lv_iload hx hb dX10_addPoint_32 (lv_at hl 4 rfl) ?_
              refine lv_if_ne (tgt := 51) hx hb dX10_addPoint_34 (by decide) (fun c34 => ?_) (fun c34 => ?_)
              · skip
                have c34 : ¬ ((nI tq) = nI 0) := c34
                have c34 : ¬ (tq = 0) := fun z9 => c34 ((nI_eq (by omega) (by omega)).mpr z9)
                refine lv_iconst (v := nI 0) hx hb dX10_addPoint_51 (by decide) ?_
                exact LLq52 0 (by unfold mGood; omega) _ _ _ hG (lv_sub hl [0, 1, 2, 3, 4] rfl)
              · skip
                have c34 : (nI tq) = nI 0 := c34
                have c34 : tq = 0 := (nI_eq (by omega) (by omega)).mp c34
                refine lv_iload_n hx hb dX10_addPoint_37 rfl (lv_at hl 3 rfl) ?_
                refine lv_iconst (v := nI 2) hx hb dX10_addPoint_38 (by decide) ?_
                refine lv_icmp_eq (tgt := 47) hx hb dX10_addPoint_39 (by decide) (fun c39 => ?_) (fun c39 => ?_)
                · skip
                  have c39 : pq = ((2 : Nat) : Int) := (cmp_eq (zI_toInt (by omega) (by omega)) (nI_toInt (by omega))).mp c39
                  refine lv_iconst (v := nI 1) hx hb dX10_addPoint_47 (by decide) ?_
                  refine lv_goto (tgt := 52) hx hb dX10_addPoint_48 (by decide) ?_
                  exact LLq52 1 (by unfold mGood; omega) _ _ _ hG (lv_sub hl [0, 1, 2, 3, 4] rfl)
                · skip
                  have c39 : ¬ (pq = ((2 : Nat) : Int)) := fun z9 => c39 ((cmp_eq (zI_toInt (by omega) (by omega)) (nI_toInt (by omega))).mpr z9)
                  refine lv_iload_n hx hb dX10_addPoint_42 rfl (lv_at hl 3 rfl) ?_
                  refine lv_iconst (v := nI 4) hx hb dX10_addPoint_43 (by decide) ?_
                  refine lv_icmp_ne (tgt := 51) hx hb dX10_addPoint_44 (by decide) (fun c44 => ?_) (fun c44 => ?_)
                  · skip
                    have c44 : ¬ (pq = ((4 : Nat) : Int)) := fun z9 => c44 ((cmp_eq (zI_toInt (by omega) (by omega)) (nI_toInt (by omega))).mpr z9)
                    refine lv_iconst (v := nI 0) hx hb dX10_addPoint_51 (by decide) ?_
                    exact LLq52 0 (by unfold mGood; omega) _ _ _ hG (lv_sub hl [0, 1, 2, 3, 4] rfl)
                  · skip
                    have c44 : pq = ((4 : Nat) : Int) := (cmp_eq (zI_toInt (by omega) (by omega)) (nI_toInt (by omega))).mp c44
                    refine lv_iconst (v := nI 1) hx hb dX10_addPoint_47 (by decide) ?_
                    refine lv_goto (tgt := 52) hx hb dX10_addPoint_48 (by decide) ?_
                    exact LLq52 1 (by unfold mGood; omega) _ _ _ hG (lv_sub hl [0, 1, 2, 3, 4] rfl)
        · refine W.eq (g2 := F0 mM 24 ls [.int (nI 0)]) rfl ?_
          refine lv_if_eq (tgt := 51) hx hb dX10_addPoint_24 (by decide) (fun c24 => ?_) (fun c24 => ?_)
          · skip
            refine lv_iconst (v := nI 0) hx hb dX10_addPoint_51 (by decide) ?_
            exact LLq52 0 (by unfold mGood; omega) _ _ _ hG (lv_sub hl [0, 1, 2, 3, 4] rfl)
          · skip
            exact absurd c24 (by decide)
  · refine W.eq (g2 := F0 mM 6 ls [.int (nI 0)]) rfl ?_
    refine lv_if_eq (tgt := 51) hx hb dX10_addPoint_6 (by decide) (fun c6 => ?_) (fun c6 => ?_)
    · skip
      refine lv_iconst (v := nI 0) hx hb dX10_addPoint_51 (by decide) ?_
      exact LLq52 0 (by unfold mGood; omega) _ _ _ hG (lv_sub hl [0, 1, 2, 3, 4] rfl)
    · skip
      exact absurd c6 (by decide)

abbrev PX10_cut (ad : Nat → Nat) (A : Nat → Nat → Int32) (J : Nat → Nat → Int64) (G : Nat → Nat → Int) (x kk : Int32) : Option Value → (Nat → Nat → Int32) → (Nat → Nat → Int64) → Prop := fun v_ A1 J1 => (v_ = some (.int (nI 0)) ∧ gu A 28 34 (nI 1) = A1 ∧ J = J1 ∧ (kk.toInt < 1)) ∨ (v_ = some (.int (nI 0)) ∧ gu A 28 34 (nI 2) = A1 ∧ J = J1 ∧ (1 ≤ kk.toInt) ∧ (¬ (0 ≤ x.toInt ∧ x.toInt < G 28 10 ∧ kk.toInt ≤ G 28 10 - x.toInt))) ∨ (∃ (ixq cnq : Nat), v_ = some (.int (zI (G 28 10 - ((cnq : Nat) : Int)))) ∧ J = J1 ∧ (x = nI ixq) ∧ (kk = nI cnq) ∧ (1 ≤ cnq) ∧ (((ixq + cnq : Nat) : Int) ≤ G 28 10) ∧ (MRep A1 (mDrop G ixq cnq (G 28 10 - (cnq : Int)).toNat)) ∧ (MOnly A A1) ∧ (A1 28 34 = nI 0))
set_option maxHeartbeats 4000000 in
set_option maxRecDepth 100000 in
theorem cX10_cutC (l : Launch) (D : va_G) (cy : Nat → ClassId) (base : Nat) (ad : Nat → Nat) (n : Nat) (A : Nat → Nat → Int32) (J : Nat → Nat → Int64) (G : Nat → Nat → Int) (x kk : Int32) (hM : MRep A G) (hol : 0 ≤ G 28 10 ∧ G 28 10 ≤ 8000) : gMet l yX10_cut wsX10_cut ({ frames := 1, cells := 0, slots := 0, locals := 23 } : Room) D cy base ad n A J [.ref (ad 28), .int x, .int kk] (PX10_cut ad A J G x kk) := by
  refine g_ofW (cc := cX10_cut) (maxL := 3) (ret := (some .int)) (by decide) rfl (Nat.le_of_ble_eq_true rfl) ?_
  intro pM eM sM mM aM bM methM cM H locs ls hx hb hr hts hown hlocks hml hE hG hl
  have hl : lv_has ls 3 [(0, .ref (ad 28)), (1, .int x), (2, .int kk)] := hl
  have hinX10 : ∀ w ∈ u_ws RX10 TX10 35, w ∈ wsX10_cut := by decide +kernel
  refine lv_aload_n hx hb dX10_cut_0 rfl (lv_at hl 0 rfl) ?_
  refine lv_iload_n hx hb dX10_cut_1 rfl (lv_at hl 2 rfl) ?_
  refine lv_iconst (v := nI 1) hx hb dX10_cut_2 (by decide) ?_
  refine lv_icmp_ge (tgt := 10) hx hb dX10_cut_3 (by decide) (fun c3 => ?_) (fun c3 => ?_)
  · skip
    have c3 : ((1 : Nat) : Int) ≤ kk.toInt := (cmp_le (nI_toInt (by omega)) rfl).mp c3
    refine lv_iload_n hx hb dX10_cut_10 rfl (lv_at hl 1 rfl) ?_
    refine lv_if_lt (tgt := 32) hx hb dX10_cut_11 (by decide) (fun c11 => ?_) (fun c11 => ?_)
    · skip
      have c11 : x < nI 0 := c11
      have c11 : x.toInt < ((0 : Nat) : Int) := (cmp_lt rfl (nI_toInt (by omega))).mp c11
      refine lv_iconst (v := nI 2) hx hb dX10_cut_32 (by decide) ?_
      refine lv_goto (tgt := 37) hx hb dX10_cut_33 (by decide) ?_
      refine g_callV (As := [.int (nI 2)]) (rest := []) (r := (RX10, TX10, 35)) ⟨hx, hb, hml, hown, hts⟩ hE hG (cX10_canC l D cy base ad n A J 2 (by first | assumption | omega)) (cwV 1 hts gX10_cut_X10_can rfl rfl rfl (by decide +kernel) ⟨Nat.le_of_ble_eq_true rfl, Nat.le_of_ble_eq_true rfl⟩) (by omega) rfl rfl rfl hl.1 rfl (Nat.le_of_ble_eq_true rfl) dX10_cut_37 ⟨Nat.zero_le _, Nat.zero_le _⟩ (fun v_ A37 J37 H locs hp hG => ?_)
      rcases hp with ⟨rfl, rfl, rfl, hC_37⟩ | ⟨rfl, rfl, rfl, hC_37⟩
      · exact absurd hC_37 (by decide)
      · refine W.eq (g2 := F0 mM 40 ls [.int (nI 0)]) rfl ?_
        refine lv_if_ne (tgt := 45) hx hb dX10_cut_40 (by decide) (fun c40 => ?_) (fun c40 => ?_)
        · skip
          exact absurd c40 (by decide)
        · skip
          refine lv_iconst (v := nI 0) hx hb dX10_cut_43 (by decide) ?_
          exact g_iret hx hb hr hlocks hG (by first | exact Or.inl ⟨rfl, rfl, rfl, (by first | omega | rfl | assumption)⟩ | exact Or.inr (Or.inl ⟨rfl, rfl, rfl, (by first | omega | rfl | assumption), (by first | omega | rfl | assumption)⟩) | exact Or.inr (Or.inr (⟨_, _, rfl, rfl, (by first | omega | rfl | assumption), (by first | omega | rfl | assumption), (by first | omega | rfl | assumption), (by first | omega | rfl | assumption), (by first | omega | rfl | assumption), (by first | omega | rfl | assumption), (by first | omega | rfl | assumption)⟩))) dX10_cut_44
    · skip
      have c11 : ¬ (x < nI 0) := c11
      have c11 : ¬ (x.toInt < ((0 : Nat) : Int)) := fun z9 => c11 ((cmp_lt rfl (nI_toInt (by omega))).mpr z9)
      have hx0 := z_bound x
      have hk0 := z_bound kk
      refine lv_iload_n hx hb dX10_cut_14 rfl (lv_at hl 1 rfl) ?_
      refine lv_aload_n hx hb dX10_cut_15 rfl (lv_at hl 0 rfl) ?_
      refine g_get (C := RX10) (T := TX10) (NN := 35) (ci := 10) hx hb hts hinX10 hown hE hG (k := 28) (by omega) rfl rfl 10 (by decide) (hts (.fieldLink RX10 117 "CommutatorModel" "onLine" "I") (List.mem_of_getElem? (i := 1) rfl)) rfl (v := .int (A 28 10)) rfl dX10_cut_16 ?_
      refine g_top (y := zI (G 28 10)) (hM 28 10 (by omega) (by omega) (by omega)) ?_
      refine lv_icmp_ge (tgt := 32) hx hb dX10_cut_19 (by decide) (fun c19 => ?_) (fun c19 => ?_)
      · skip
        have c19 : (G 28 10) ≤ x.toInt := (cmp_le (zI_toInt (by omega) (by omega)) rfl).mp c19
        refine lv_iconst (v := nI 2) hx hb dX10_cut_32 (by decide) ?_
        refine lv_goto (tgt := 37) hx hb dX10_cut_33 (by decide) ?_
        refine g_callV (As := [.int (nI 2)]) (rest := []) (r := (RX10, TX10, 35)) ⟨hx, hb, hml, hown, hts⟩ hE hG (cX10_canC l D cy base ad n A J 2 (by first | assumption | omega)) (cwV 1 hts gX10_cut_X10_can rfl rfl rfl (by decide +kernel) ⟨Nat.le_of_ble_eq_true rfl, Nat.le_of_ble_eq_true rfl⟩) (by omega) rfl rfl rfl hl.1 rfl (Nat.le_of_ble_eq_true rfl) dX10_cut_37 ⟨Nat.zero_le _, Nat.zero_le _⟩ (fun v_ A37 J37 H locs hp hG => ?_)
        rcases hp with ⟨rfl, rfl, rfl, hC_37⟩ | ⟨rfl, rfl, rfl, hC_37⟩
        · exact absurd hC_37 (by decide)
        · refine W.eq (g2 := F0 mM 40 ls [.int (nI 0)]) rfl ?_
          refine lv_if_ne (tgt := 45) hx hb dX10_cut_40 (by decide) (fun c40 => ?_) (fun c40 => ?_)
          · skip
            exact absurd c40 (by decide)
          · skip
            refine lv_iconst (v := nI 0) hx hb dX10_cut_43 (by decide) ?_
            exact g_iret hx hb hr hlocks hG (by first | exact Or.inl ⟨rfl, rfl, rfl, (by first | omega | rfl | assumption)⟩ | exact Or.inr (Or.inl ⟨rfl, rfl, rfl, (by first | omega | rfl | assumption), (by first | omega | rfl | assumption)⟩) | exact Or.inr (Or.inr (⟨_, _, rfl, rfl, (by first | omega | rfl | assumption), (by first | omega | rfl | assumption), (by first | omega | rfl | assumption), (by first | omega | rfl | assumption), (by first | omega | rfl | assumption), (by first | omega | rfl | assumption), (by first | omega | rfl | assumption)⟩))) dX10_cut_44
      · skip
        have c19 : ¬ ((G 28 10) ≤ x.toInt) := fun z9 => c19 ((cmp_le (zI_toInt (by omega) (by omega)) rfl).mpr z9)
        refine lv_iload_n hx hb dX10_cut_22 rfl (lv_at hl 2 rfl) ?_
        refine lv_aload_n hx hb dX10_cut_23 rfl (lv_at hl 0 rfl) ?_
        refine g_get (C := RX10) (T := TX10) (NN := 35) (ci := 10) hx hb hts hinX10 hown hE hG (k := 28) (by omega) rfl rfl 10 (by decide) (hts (.fieldLink RX10 117 "CommutatorModel" "onLine" "I") (List.mem_of_getElem? (i := 1) rfl)) rfl (v := .int (A 28 10)) rfl dX10_cut_24 ?_
        refine g_top (y := zI (G 28 10)) (hM 28 10 (by omega) (by omega) (by omega)) ?_
        refine lv_iload_n hx hb dX10_cut_27 rfl (lv_at hl 1 rfl) ?_
        refine lv_isub hx hb dX10_cut_28 ?_
        refine g_top (y := zI (G 28 10 - x.toInt)) (by rw [← zI_of x, zI_sub, zI_toInt (by omega) (by omega)]) ?_
        refine lv_icmp_le (tgt := 36) hx hb dX10_cut_29 (by decide) (fun c29 => ?_) (fun c29 => ?_)
        · skip
          have c29 : kk.toInt ≤ (G 28 10 - x.toInt) := (cmp_le rfl (zI_toInt (by omega) (by omega))).mp c29
          refine lv_iconst (v := nI 0) hx hb dX10_cut_36 (by decide) ?_
          refine g_callV (As := [.int (nI 0)]) (rest := []) (r := (RX10, TX10, 35)) ⟨hx, hb, hml, hown, hts⟩ hE hG (cX10_canC l D cy base ad n A J 0 (by first | assumption | omega)) (cwV 1 hts gX10_cut_X10_can rfl rfl rfl (by decide +kernel) ⟨Nat.le_of_ble_eq_true rfl, Nat.le_of_ble_eq_true rfl⟩) (by omega) rfl rfl rfl hl.1 rfl (Nat.le_of_ble_eq_true rfl) dX10_cut_37 ⟨Nat.zero_le _, Nat.zero_le _⟩ (fun v_ A37 J37 H locs hp hG => ?_)
          rcases hp with ⟨rfl, rfl, rfl, hC_37⟩ | ⟨rfl, rfl, rfl, hC_37⟩
          · refine W.eq (g2 := F0 mM 40 ls [.int (nI 1)]) rfl ?_
            refine lv_if_ne (tgt := 45) hx hb dX10_cut_40 (by decide) (fun c40 => ?_) (fun c40 => ?_)
            · skip
              obtain ⟨jq, hjq, rfl⟩ := z_nat (x := x) (by omega)
              have hjqt : (nI jq).toInt = (jq : Int) := nI_toInt hjq
              obtain ⟨cq, hcq, rfl⟩ := z_nat (x := kk) (by omega)
              have hcqt : (nI cq).toInt = (cq : Int) := nI_toInt hcq
              refine lv_aload_n hx hb dX10_cut_45 rfl (lv_at hl 0 rfl) ?_
              refine lv_iload_n hx hb dX10_cut_46 rfl (lv_at hl 1 rfl) ?_
              refine lv_iload_n hx hb dX10_cut_47 rfl (lv_at hl 2 rfl) ?_
              refine g_callV (As := [.int (nI jq), .int (nI cq)]) (rest := []) (r := (RX10, TX10, 35)) ⟨hx, hb, hml, hown, hts⟩ hE hG (cX10_dropC l D cy base ad n (gu A 28 34 (nI 0)) J G jq cq (hM.th _) (by first | assumption | omega) (by first | assumption | omega)) (cwV 2 hts gX10_cut_X10_drop rfl rfl rfl (by decide +kernel) ⟨Nat.le_of_ble_eq_true rfl, Nat.le_of_ble_eq_true rfl⟩) (by omega) rfl rfl rfl hl.1 rfl (Nat.le_of_ble_eq_true rfl) dX10_cut_48 ⟨Nat.zero_le _, Nat.zero_le _⟩ (fun v_ A48 J48 H locs hp hG => ?_)
              obtain ⟨rfl, rfl, hR_48, hO_48, hth_48⟩ := hp
              refine W.eq (g2 := F0 mM 51 ls []) rfl ?_
              refine lv_aload_n hx hb dX10_cut_51 rfl (lv_at hl 0 rfl) ?_
              refine g_get (C := RX10) (T := TX10) (NN := 35) (ci := 10) hx hb hts hinX10 hown hE hG (k := 28) (by omega) rfl rfl 10 (by decide) (hts (.fieldLink RX10 117 "CommutatorModel" "onLine" "I") (List.mem_of_getElem? (i := 1) rfl)) rfl (v := .int (A48 28 10)) rfl dX10_cut_52 ?_
              refine g_top (y := zI (G 28 10 - ((cq : Nat) : Int))) ((hR_48 28 10 (by omega) (by omega) (by omega)).trans (by simp [mDrop, gr_at, gu_at])) ?_
              exact g_iret hx hb hr hlocks hG (Or.inr (Or.inr ⟨jq, cq, rfl, rfl, rfl, rfl, by omega, by omega, hR_48, fun q9 h9 => by rw [hO_48 q9 h9, gu_ne _ _ _ (by omega)], by rw [hth_48]; rfl⟩)) dX10_cut_55
            · skip
              exact absurd c40 (by decide)
          · exact absurd hC_37 (by decide)
        · skip
          have c29 : ¬ (kk.toInt ≤ (G 28 10 - x.toInt)) := fun z9 => c29 ((cmp_le rfl (zI_toInt (by omega) (by omega))).mpr z9)
          refine lv_iconst (v := nI 2) hx hb dX10_cut_32 (by decide) ?_
          refine lv_goto (tgt := 37) hx hb dX10_cut_33 (by decide) ?_
          refine g_callV (As := [.int (nI 2)]) (rest := []) (r := (RX10, TX10, 35)) ⟨hx, hb, hml, hown, hts⟩ hE hG (cX10_canC l D cy base ad n A J 2 (by first | assumption | omega)) (cwV 1 hts gX10_cut_X10_can rfl rfl rfl (by decide +kernel) ⟨Nat.le_of_ble_eq_true rfl, Nat.le_of_ble_eq_true rfl⟩) (by omega) rfl rfl rfl hl.1 rfl (Nat.le_of_ble_eq_true rfl) dX10_cut_37 ⟨Nat.zero_le _, Nat.zero_le _⟩ (fun v_ A37 J37 H locs hp hG => ?_)
          rcases hp with ⟨rfl, rfl, rfl, hC_37⟩ | ⟨rfl, rfl, rfl, hC_37⟩
          · exact absurd hC_37 (by decide)
          · refine W.eq (g2 := F0 mM 40 ls [.int (nI 0)]) rfl ?_
            refine lv_if_ne (tgt := 45) hx hb dX10_cut_40 (by decide) (fun c40 => ?_) (fun c40 => ?_)
            · skip
              exact absurd c40 (by decide)
            · skip
              refine lv_iconst (v := nI 0) hx hb dX10_cut_43 (by decide) ?_
              exact g_iret hx hb hr hlocks hG (by first | exact Or.inl ⟨rfl, rfl, rfl, (by first | omega | rfl | assumption)⟩ | exact Or.inr (Or.inl ⟨rfl, rfl, rfl, (by first | omega | rfl | assumption), (by first | omega | rfl | assumption)⟩) | exact Or.inr (Or.inr (⟨_, _, rfl, rfl, (by first | omega | rfl | assumption), (by first | omega | rfl | assumption), (by first | omega | rfl | assumption), (by first | omega | rfl | assumption), (by first | omega | rfl | assumption), (by first | omega | rfl | assumption), (by first | omega | rfl | assumption)⟩))) dX10_cut_44
  · skip
    have c3 : ¬ (((1 : Nat) : Int) ≤ kk.toInt) := fun z9 => c3 ((cmp_le (nI_toInt (by omega)) rfl).mpr z9)
    refine lv_iconst (v := nI 1) hx hb dX10_cut_6 (by decide) ?_
    refine lv_goto (tgt := 37) hx hb dX10_cut_7 (by decide) ?_
    refine g_callV (As := [.int (nI 1)]) (rest := []) (r := (RX10, TX10, 35)) ⟨hx, hb, hml, hown, hts⟩ hE hG (cX10_canC l D cy base ad n A J 1 (by first | assumption | omega)) (cwV 1 hts gX10_cut_X10_can rfl rfl rfl (by decide +kernel) ⟨Nat.le_of_ble_eq_true rfl, Nat.le_of_ble_eq_true rfl⟩) (by omega) rfl rfl rfl hl.1 rfl (Nat.le_of_ble_eq_true rfl) dX10_cut_37 ⟨Nat.zero_le _, Nat.zero_le _⟩ (fun v_ A37 J37 H locs hp hG => ?_)
    rcases hp with ⟨rfl, rfl, rfl, hC_37⟩ | ⟨rfl, rfl, rfl, hC_37⟩
    · exact absurd hC_37 (by decide)
    · refine W.eq (g2 := F0 mM 40 ls [.int (nI 0)]) rfl ?_
      refine lv_if_ne (tgt := 45) hx hb dX10_cut_40 (by decide) (fun c40 => ?_) (fun c40 => ?_)
      · skip
        exact absurd c40 (by decide)
      · skip
        refine lv_iconst (v := nI 0) hx hb dX10_cut_43 (by decide) ?_
        exact g_iret hx hb hr hlocks hG (by first | exact Or.inl ⟨rfl, rfl, rfl, (by first | omega | rfl | assumption)⟩ | exact Or.inr (Or.inl ⟨rfl, rfl, rfl, (by first | omega | rfl | assumption), (by first | omega | rfl | assumption)⟩) | exact Or.inr (Or.inr (⟨_, _, rfl, rfl, (by first | omega | rfl | assumption), (by first | omega | rfl | assumption), (by first | omega | rfl | assumption), (by first | omega | rfl | assumption), (by first | omega | rfl | assumption), (by first | omega | rfl | assumption), (by first | omega | rfl | assumption)⟩))) dX10_cut_44

abbrev PX10_sendWord (ad : Nat → Nat) (A : Nat → Nat → Int32) (J : Nat → Nat → Int64) (G : Nat → Nat → Int) : Option Value → (Nat → Nat → Int32) → (Nat → Nat → Int64) → Prop := fun v_ A1 J1 => (v_ = none ∧ J = J1 ∧ (MRep A1 (mSW G)) ∧ (MOnly A A1) ∧ (A1 28 34 = A 28 34))
set_option maxHeartbeats 4000000 in
set_option maxRecDepth 100000 in
theorem cX10_sendWordC (l : Launch) (D : va_G) (cy : Nat → ClassId) (base : Nat) (ad : Nat → Nat) (n : Nat) (A : Nat → Nat → Int32) (J : Nat → Nat → Int64) (G : Nat → Nat → Int) (hM : MRep A G) (hT : TsOk G) (hw : 0 ≤ G 28 9 ∧ G 28 9 < 1000) (hol : 0 ≤ G 28 10 ∧ G 28 10 + 8 ≤ 8000) (hpr : mPres G) (hsn : mSndOk G) : gMet l yX10_sendWord wsX10_sendWord ({ frames := 2, cells := 0, slots := 0, locals := 48 } : Room) D cy base ad n A J [.ref (ad 28)] (PX10_sendWord ad A J G) := by
  refine g_ofW (cc := cX10_sendWord) (maxL := 7) (ret := none) (by decide) rfl (Nat.le_of_ble_eq_true rfl) ?_
  intro pM eM sM mM aM bM methM cM H locs ls hx hb hr hts hown hlocks hml hE hG hl
  have hl : lv_has ls 7 [(0, .ref (ad 28))] := hl
  have hinX10 : ∀ w ∈ u_ws RX10 TX10 35, w ∈ wsX10_sendWord := by decide +kernel
  have hwd : mWd G = G 28 9 % 8 := rfl
  have hct : mCtr G = G 28 9 / 8 % 256 := rfl
  refine lv_aload_n hx hb dX10_sendWord_0 rfl (lv_at hl 0 rfl) ?_
  refine g_get (C := RX10) (T := TX10) (NN := 35) (ci := 10) hx hb hts hinX10 hown hE hG (k := 28) (by omega) rfl rfl 9 (by decide) (hts (.fieldLink RX10 104 "CommutatorModel" "words" "I") (List.mem_of_getElem? (i := 1) rfl)) rfl (v := .int (A 28 9)) rfl dX10_sendWord_1 ?_
  refine g_top (y := zI (G 28 9)) (hM 28 9 (by omega) (by omega) (by omega)) ?_
  refine lv_bipush (v := nI 8) hx hb dX10_sendWord_4 (by decide) ?_
  refine lv_irem hx hb dX10_sendWord_6 (by decide) ?_
  refine g_top (y := zI (mWd G)) (zI_rem (b := 8) (by omega) (by omega) (by omega) (by omega)) ?_
  refine lv_istore_n (lv' := [(1, .int (zI (mWd G))), (0, .ref (ad 28))]) hx hb dX10_sendWord_7 rfl hl (by decide) rfl (fun ls hl => ?_)
  refine lv_aload_n hx hb dX10_sendWord_8 rfl (lv_at hl 1 rfl) ?_
  refine g_get (C := RX10) (T := TX10) (NN := 35) (ci := 10) hx hb hts hinX10 hown hE hG (k := 28) (by omega) rfl rfl 9 (by decide) (hts (.fieldLink RX10 104 "CommutatorModel" "words" "I") (List.mem_of_getElem? (i := 1) rfl)) rfl (v := .int (A 28 9)) rfl dX10_sendWord_9 ?_
  refine g_top (y := zI (G 28 9)) (hM 28 9 (by omega) (by omega) (by omega)) ?_
  refine lv_bipush (v := nI 8) hx hb dX10_sendWord_12 (by decide) ?_
  refine lv_idiv hx hb dX10_sendWord_14 (by decide) ?_
  refine g_top (y := zI (G 28 9 / 8)) (zI_div (b := 8) (by omega) (by omega) (by omega) (by omega)) ?_
  refine lv_sipush (v := nI 256) hx hb dX10_sendWord_15 (by decide) ?_
  refine lv_irem hx hb dX10_sendWord_18 (by decide) ?_
  refine g_top (y := zI (mCtr G)) (zI_rem (b := 256) (by omega) (by omega) (by omega) (by omega)) ?_
  refine lv_istore_n (lv' := [(2, .int (zI (mCtr G))), (1, .int (zI (mWd G))), (0, .ref (ad 28))]) hx hb dX10_sendWord_19 rfl hl (by decide) rfl (fun ls hl => ?_)
  refine lv_iconst (v := nI 0) hx hb dX10_sendWord_20 (by decide) ?_
  refine lv_istore_n (lv' := [(3, .int (nI 0)), (2, .int (zI (mCtr G))), (1, .int (zI (mWd G))), (0, .ref (ad 28))]) hx hb dX10_sendWord_21 rfl hl (by decide) rfl (fun ls hl => ?_)
  have LLq22 : ∀ (fuel : Nat) (kq : Nat) (Aq : Nat → Nat → Int32) (hk : (kq : Int) ≤ G 28 0) (hR : MRep Aq (gr G 36 (mSnd G (mCtr G) (mWd G) (2 * kq)))) (hO : MOnly A Aq) (hth : Aq 28 34 = A 28 34) (_ : (G 28 0 - kq).toNat < fuel) (H : Heap) (locs : List Loc) (ls : Array Slot), gH D base sM ad (50 + 2 * n) (gw cy ad n Aq J) H locs → lv_has ls 7 [(0, .ref (ad 28)), (1, .int (zI (mWd G))), (2, .int (zI (mCtr G))), (3, .int (nI kq))] → W pM l eM ({ frames := 2, cells := 0, slots := 0, locals := 48 } : Room) sM mM aM bM methM cM H locs 0 0 (MQ bM (gPost D cy base ad n (PX10_sendWord ad A J G)) aM sM 0 0 (fun q => base ≤ q)) (F0 mM 22 ls []) := by
    intro fuel
    induction fuel with
    | zero => intro kq Aq hk hR hO hth hms H locs ls hG hl; exact absurd hms (Nat.not_lt_zero _)
    | succ fuel ihq22 =>
      intro kq Aq hk hR hO hth hms H locs ls hG hl
      refine lv_iload_n hx hb dX10_sendWord_22 rfl (lv_at hl 3 rfl) ?_
      refine lv_aload_n hx hb dX10_sendWord_23 rfl (lv_at hl 0 rfl) ?_
      refine g_get (C := RX10) (T := TX10) (NN := 35) (ci := 10) hx hb hts hinX10 hown hE hG (k := 28) (by omega) rfl rfl 0 (by decide) (hts (.fieldLink RX10 81 "CommutatorModel" "points" "I") (List.mem_of_getElem? (i := 2) rfl)) rfl (v := .int (Aq 28 0)) rfl dX10_sendWord_24 ?_
      refine g_top (y := zI (G 28 0)) (hR 28 0 (by omega) (by omega) (by omega)) ?_
      refine lv_icmp_ge (tgt := 109) hx hb dX10_sendWord_27 (by decide) (fun c27 => ?_) (fun c27 => ?_)
      · skip
        have c27 : (G 28 0) ≤ ((kq : Nat) : Int) := (cmp_le (zI_toInt (by omega) (by omega)) (nI_toInt (by omega))).mp c27
        refine lv_bipush (v := nI 8) hx hb dX10_sendWord_109 (by decide) ?_
        refine lv_iload_n hx hb dX10_sendWord_111 rfl (lv_at hl 1 rfl) ?_
        refine lv_imul hx hb dX10_sendWord_112 ?_
        refine g_top (y := zI (8 * (mWd G))) (zI_mul_ni _ _) ?_
        refine lv_istore_n (lv' := [(3, .int (zI (8 * (mWd G)))), (0, .ref (ad 28)), (1, .int (zI (mWd G))), (2, .int (zI (mCtr G)))]) hx hb dX10_sendWord_113 rfl hl (by decide) rfl (fun ls hl => ?_)
        have LLq114 : ∀ (fuel : Nat) (qq : Nat) (bq : Int) (Aq : Nat → Nat → Int32) (hq : qq ≤ 8) (hbb : bq = 8 * mWd G + (qq : Int)) (hR : MRep Aq (mSW2 G (mSW1 G) qq)) (hO : MOnly A Aq) (hth : Aq 28 34 = A 28 34) (_ : (8 - qq) < fuel) (H : Heap) (locs : List Loc) (ls : Array Slot), gH D base sM ad (50 + 2 * n) (gw cy ad n Aq J) H locs → lv_has ls 7 [(0, .ref (ad 28)), (1, .int (zI (mWd G))), (2, .int (zI (mCtr G))), (3, .int (zI bq))] → W pM l eM ({ frames := 2, cells := 0, slots := 0, locals := 48 } : Room) sM mM aM bM methM cM H locs 0 0 (MQ bM (gPost D cy base ad n (PX10_sendWord ad A J G)) aM sM 0 0 (fun q => base ≤ q)) (F0 mM 114 ls []) := by
          intro fuel
          induction fuel with
          | zero => intro qq bq Aq hq hbb hR hO hth hms H locs ls hG hl; exact absurd hms (Nat.not_lt_zero _)
          | succ fuel ihq114 =>
            intro qq bq Aq hq hbb hR hO hth hms H locs ls hG hl
            refine lv_iload_n hx hb dX10_sendWord_114 rfl (lv_at hl 3 rfl) ?_
            refine lv_bipush (v := nI 8) hx hb dX10_sendWord_115 (by decide) ?_
            refine lv_iload_n hx hb dX10_sendWord_117 rfl (lv_at hl 1 rfl) ?_
            refine lv_imul hx hb dX10_sendWord_118 ?_
            refine g_top (y := zI (8 * (mWd G))) (zI_mul_ni _ _) ?_
            refine lv_bipush (v := nI 8) hx hb dX10_sendWord_119 (by decide) ?_
            refine lv_iadd hx hb dX10_sendWord_121 ?_
            refine g_top (y := zI ((8 * (mWd G)) + 8)) (zI_add_in _ _) ?_
            refine lv_icmp_ge (tgt := 286) hx hb dX10_sendWord_122 (by decide) (fun c122 => ?_) (fun c122 => ?_)
            · skip
              have c122 : ((8 * (mWd G)) + 8) ≤ bq := (cmp_le (zI_toInt (by omega) (by omega)) (zI_toInt (by omega) (by omega))).mp c122
              have hq9 : qq = 8 := by omega
              subst hq9
              refine lv_aload_n hx hb dX10_sendWord_286 rfl (lv_at hl 0 rfl) ?_
              refine lv_dup hx hb dX10_sendWord_287 rfl ?_
              refine g_get (C := RX10) (T := TX10) (NN := 35) (ci := 10) hx hb hts hinX10 hown hE hG (k := 28) (by omega) rfl rfl 9 (by decide) (hts (.fieldLink RX10 104 "CommutatorModel" "words" "I") (List.mem_of_getElem? (i := 1) rfl)) rfl (v := .int (Aq 28 9)) rfl dX10_sendWord_288 ?_
              refine g_top (y := zI (G 28 9)) (hR 28 9 (by omega) (by omega) (by omega)) ?_
              refine lv_iconst (v := nI 1) hx hb dX10_sendWord_291 (by decide) ?_
              refine lv_iadd hx hb dX10_sendWord_292 ?_
              refine g_top (y := zI ((G 28 9) + 1)) (zI_add_in _ _) ?_
              refine g_puti (C := RX10) (T := TX10) (NN := 35) (ci := 10) hx hb hts hinX10 tyX10 tyX10_ok nmX10 hown hE hG (k := 28) (by omega) rfl rfl 9 (by decide) (hts (.fieldLink RX10 104 "CommutatorModel" "words" "I") (List.mem_of_getElem? (i := 1) rfl)) rfl rfl (ty := .int) (v := zI ((G 28 9) + 1)) (by decide +kernel) rfl rfl (Nat.le_of_ble_eq_true rfl) rfl dX10_sendWord_293 (fun H locs hG => ?_)
              exact g_vret hx hb hr hlocks hG ⟨rfl, rfl, (hR.up 28 9 _ : MRep _ _), (hO.up _ _ (by decide) (by decide)), by rw [gu_at, if_neg (by omega)]; exact hth⟩ dX10_sendWord_296
            · skip
              have c122 : ¬ (((8 * (mWd G)) + 8) ≤ bq) := fun z9 => c122 ((cmp_le (zI_toInt (by omega) (by omega)) (zI_toInt (by omega) (by omega))).mpr z9)
              have LLq259 : ∀  (xq : Int) (hxq : xq = mBit (mSW1 G) (mCtr G) bq) (H : Heap) (locs : List Loc) (ls : Array Slot), gH D base sM ad (50 + 2 * n) (gw cy ad n Aq J) H locs → lv_has ls 7 [(0, .ref (ad 28)), (1, .int (zI (mWd G))), (2, .int (zI (mCtr G))), (3, .int (zI bq)), (4, .int (zI xq))] → W pM l eM ({ frames := 2, cells := 0, slots := 0, locals := 48 } : Room) sM mM aM bM methM cM H locs 0 0 (MQ bM (gPost D cy base ad n (PX10_sendWord ad A J G)) aM sM 0 0 (fun q => base ≤ q)) (F0 mM 259 ls []) := by
                intro xq hxq H locs ls hG hl
                refine lv_aload_n hx hb dX10_sendWord_259 rfl (lv_at hl 0 rfl) ?_
                refine g_get (C := RX10) (T := TX10) (NN := 35) (ci := 10) hx hb hts hinX10 hown hE hG (k := 28) (by omega) rfl rfl 11 (by decide) (hts (.fieldLink RX10 34 "CommutatorModel" "line" "[I") (List.mem_of_getElem? (i := 8) rfl)) rfl (v := .ref (ad 37)) rfl dX10_sendWord_260 ?_
                refine lv_aload_n hx hb dX10_sendWord_263 rfl (lv_at hl 0 rfl) ?_
                refine g_get (C := RX10) (T := TX10) (NN := 35) (ci := 10) hx hb hts hinX10 hown hE hG (k := 28) (by omega) rfl rfl 10 (by decide) (hts (.fieldLink RX10 117 "CommutatorModel" "onLine" "I") (List.mem_of_getElem? (i := 9) rfl)) rfl (v := .int (Aq 28 10)) rfl dX10_sendWord_264 ?_
                refine g_top (y := zI (G 28 10 + ((qq : Nat) : Int))) (hR 28 10 (by omega) (by omega) (by omega)) ?_
                refine lv_iload hx hb dX10_sendWord_267 (lv_at hl 4 rfl) ?_
                refine g_iast hx hb hE hG (k := 37) (by omega) (fun _ => rfl) ((G 28 10 + ((qq : Nat) : Int)).toNat) (zI_nat (by omega)) (by omega) (by omega) dX10_sendWord_269 (fun H locs hG => ?_)
                refine lv_aload_n hx hb dX10_sendWord_270 rfl (lv_at hl 0 rfl) ?_
                refine lv_dup hx hb dX10_sendWord_271 rfl ?_
                refine g_get (C := RX10) (T := TX10) (NN := 35) (ci := 10) hx hb hts hinX10 hown hE hG (k := 28) (by omega) rfl rfl 10 (by decide) (hts (.fieldLink RX10 117 "CommutatorModel" "onLine" "I") (List.mem_of_getElem? (i := 9) rfl)) rfl (v := .int (Aq 28 10)) rfl dX10_sendWord_272 ?_
                refine g_top (y := zI (G 28 10 + ((qq : Nat) : Int))) (hR 28 10 (by omega) (by omega) (by omega)) ?_
                refine lv_iconst (v := nI 1) hx hb dX10_sendWord_275 (by decide) ?_
                refine lv_iadd hx hb dX10_sendWord_276 ?_
                refine g_top (y := zI ((G 28 10 + ((qq : Nat) : Int)) + 1)) (zI_add_in _ _) ?_
                refine g_puti (C := RX10) (T := TX10) (NN := 35) (ci := 10) hx hb hts hinX10 tyX10 tyX10_ok nmX10 hown hE hG (k := 28) (by omega) rfl rfl 10 (by decide) (hts (.fieldLink RX10 117 "CommutatorModel" "onLine" "I") (List.mem_of_getElem? (i := 9) rfl)) rfl rfl (ty := .int) (v := zI ((G 28 10 + ((qq : Nat) : Int)) + 1)) (by decide +kernel) rfl rfl (Nat.le_of_ble_eq_true rfl) rfl dX10_sendWord_277 (fun H locs hG => ?_)
                refine lv_iinc (v := zI (bq + 1)) (lv' := [(3, .int (zI (bq + 1))), (0, .ref (ad 28)), (1, .int (zI (mWd G))), (2, .int (zI (mCtr G))), (4, .int (zI xq))]) hx hb dX10_sendWord_280 hl (k := 3) rfl (by rw [show (Int32.ofInt 1 : Int32) = zI (1) from rfl, zI_add]) (by decide) rfl (fun ls hl => ?_)
                refine lv_goto (tgt := 114) hx hb dX10_sendWord_283 (by decide) ?_
                exact ihq114 (qq + 1) (bq + 1) (gu (gu Aq 37 ((G 28 10 + ((qq : Nat) : Int)).toNat) (zI xq)) 28 10 (zI ((G 28 10 + ((qq : Nat) : Int)) + 1))) (by omega) (by omega) (mSW2_s hR (by omega) hbb hxq) ((hO.up _ _ (by decide) (by decide)).up _ _ (by decide) (by decide)) (by rw [gu_at, if_neg (by omega), gu_ne _ _ _ (by decide)]; exact hth) (by omega) _ _ _ hG (lv_sub hl [1, 2, 3, 0] rfl)
              have LLq159 : ∀  (vq : Int) (hvq : (bq < 8 → vq = tb 184 (7 - bq)) ∧ (8 ≤ bq → bq < 16 → vq = tb (mCtr G) (15 - bq)) ∧ (16 ≤ bq → vq = 0)) (H : Heap) (locs : List Loc) (ls : Array Slot), gH D base sM ad (50 + 2 * n) (gw cy ad n Aq J) H locs → lv_has ls 7 [(0, .ref (ad 28)), (1, .int (zI (mWd G))), (2, .int (zI (mCtr G))), (3, .int (zI bq))] → W pM l eM ({ frames := 2, cells := 0, slots := 0, locals := 48 } : Room) sM mM aM bM methM cM H locs 0 0 (MQ bM (gPost D cy base ad n (PX10_sendWord ad A J G)) aM sM 0 0 (fun q => base ≤ q)) (F0 mM 159 ls [.int (zI vq)]) := by
                intro vq hvq H locs ls hG hl
                refine lv_istore (lv' := [(4, .int (zI vq)), (0, .ref (ad 28)), (1, .int (zI (mWd G))), (2, .int (zI (mCtr G))), (3, .int (zI bq))]) hx hb dX10_sendWord_159 hl (by decide) rfl (fun ls hl => ?_)
                have LLq179 : ∀  (uq : Int) (huq : (bq < 16 ∧ uq = -1) ∨ (16 ≤ bq ∧ uq = mUser G (mCtr G) (bq - 16) (G 28 0).toNat)) (H : Heap) (locs : List Loc) (ls : Array Slot), gH D base sM ad (50 + 2 * n) (gw cy ad n Aq J) H locs → lv_has ls 7 [(4, .int (zI vq)), (0, .ref (ad 28)), (1, .int (zI (mWd G))), (2, .int (zI (mCtr G))), (3, .int (zI bq))] → W pM l eM ({ frames := 2, cells := 0, slots := 0, locals := 48 } : Room) sM mM aM bM methM cM H locs 0 0 (MQ bM (gPost D cy base ad n (PX10_sendWord ad A J G)) aM sM 0 0 (fun q => base ≤ q)) (F0 mM 179 ls [.int (zI uq)]) := by
                  intro uq huq H locs ls hG hl
                  have hun := mUser_range G (mCtr G) (bq - 16) (G 28 0).toNat
                  refine lv_istore (lv' := [(5, .int (zI uq)), (4, .int (zI vq)), (0, .ref (ad 28)), (1, .int (zI (mWd G))), (2, .int (zI (mCtr G))), (3, .int (zI bq))]) hx hb dX10_sendWord_179 hl (by decide) rfl (fun ls hl => ?_)
                  refine lv_iload hx hb dX10_sendWord_181 (lv_at hl 0 rfl) ?_
                  refine lv_iconst (v := zI (-1)) hx hb dX10_sendWord_183 (by decide) ?_
                  refine lv_icmp_eq (tgt := 259) hx hb dX10_sendWord_184 (by decide) (fun c184 => ?_) (fun c184 => ?_)
                  · skip
                    have c184 : uq = (-1) := (cmp_eq (zI_toInt (by omega) (by omega)) (zI_toInt (by omega) (by omega))).mp c184
                    exact LLq259 vq (by first | exact mBit_n hvq huq c184 | exact mBit_u hu8.1 (hu8.2.symm.trans hj8) hgq) _ _ _ hG (lv_sub hl [2, 3, 4, 5, 1] rfl)
                  · skip
                    have c184 : ¬ (uq = (-1)) := fun z9 => c184 ((cmp_eq (zI_toInt (by omega) (by omega)) (zI_toInt (by omega) (by omega))).mpr z9)
                    have hu8 := huq.resolve_left (fun h9 => by omega)
                    obtain ⟨jq, hj8⟩ : ∃ j8 : Nat, uq = (j8 : Int) := ⟨uq.toNat, by omega⟩
                    have hcv := mUser_cov (hu8.2.symm.trans hj8)
                    have hjT := hT.2.2 jq (by omega)
                    have hcv2 := hcv.2
                    unfold mCov at hcv2
                    rw [hj8] at hl
                    have LLq212 : ∀  (gq : Nat) (hgq : gq = if G 32 jq = 2 ∧ 24 ≤ bq - 16 then 1 else 0) (H : Heap) (locs : List Loc) (ls : Array Slot), gH D base sM ad (50 + 2 * n) (gw cy ad n Aq J) H locs → lv_has ls 7 [(5, .int (nI jq)), (4, .int (zI vq)), (0, .ref (ad 28)), (1, .int (zI (mWd G))), (2, .int (zI (mCtr G))), (3, .int (zI bq))] → W pM l eM ({ frames := 2, cells := 0, slots := 0, locals := 48 } : Room) sM mM aM bM methM cM H locs 0 0 (MQ bM (gPost D cy base ad n (PX10_sendWord ad A J G)) aM sM 0 0 (fun q => base ≤ q)) (F0 mM 212 ls [.int (nI gq)]) := by
                      intro gq hgq H locs ls hG hl
                      have hsr : 0 ≤ mSW1 G 36 (2 * jq + gq) ∧ mSW1 G 36 (2 * jq + gq) < 4096 := mSnd_range hT hsn hpr (mCtr G) (mWd G) (q := 2 * (G 28 0).toNat) (by omega) (2 * jq + gq)
                      have hg9 : (gq = 1 ∧ G 32 jq = 2 ∧ 24 ≤ bq - 16) ∨ (gq = 0 ∧ ¬ (G 32 jq = 2 ∧ 24 ≤ bq - 16)) := by
                        rw [hgq]; split
                        · rename_i h9; exact Or.inl ⟨rfl, h9⟩
                        · rename_i h9; exact Or.inr ⟨rfl, h9⟩
                      refine lv_istore (lv' := [(6, .int (nI gq)), (5, .int (nI jq)), (4, .int (zI vq)), (0, .ref (ad 28)), (1, .int (zI (mWd G))), (2, .int (zI (mCtr G))), (3, .int (zI bq))]) hx hb dX10_sendWord_212 hl (by decide) rfl (fun ls hl => ?_)
                      refine lv_aload_n hx hb dX10_sendWord_214 rfl (lv_at hl 3 rfl) ?_
                      refine g_get (C := RX10) (T := TX10) (NN := 35) (ci := 10) hx hb hts hinX10 hown hE hG (k := 28) (by omega) rfl rfl 8 (by decide) (hts (.fieldLink RX10 31 "CommutatorModel" "sending" "[I") (List.mem_of_getElem? (i := 5) rfl)) rfl (v := .ref (ad 36)) rfl dX10_sendWord_215 ?_
                      refine lv_iconst (v := nI 2) hx hb dX10_sendWord_218 (by decide) ?_
                      refine lv_iload hx hb dX10_sendWord_219 (lv_at hl 1 rfl) ?_
                      refine lv_imul hx hb dX10_sendWord_221 ?_
                      refine g_top (y := nI (2 * jq)) (by rw [pk_mul]) ?_
                      refine lv_iload hx hb dX10_sendWord_222 (lv_at hl 0 rfl) ?_
                      refine lv_iadd hx hb dX10_sendWord_224 ?_
                      refine g_top (y := nI (2 * jq + gq)) (by rw [nI_add]) ?_
                      refine g_iald hx hb hE hG (k := 36) (by omega) rfl (2 * jq + gq) (rfl) (by omega) (by omega) dX10_sendWord_225 ?_
                      refine g_top (y := zI (mSW1 G 36 (2 * jq + gq))) (hR 36 _ (by omega) (by omega) (by omega)) ?_
                      refine lv_aload_n hx hb dX10_sendWord_226 rfl (lv_at hl 3 rfl) ?_
                      refine g_get (C := RX10) (T := TX10) (NN := 35) (ci := 10) hx hb hts hinX10 hown hE hG (k := 28) (by omega) rfl rfl 1 (by decide) (hts (.fieldLink RX10 7 "CommutatorModel" "width" "[I") (List.mem_of_getElem? (i := 7) rfl)) rfl (v := .ref (ad 29)) rfl dX10_sendWord_227 ?_
                      refine lv_iload hx hb dX10_sendWord_230 (lv_at hl 1 rfl) ?_
                      refine g_iald hx hb hE hG (k := 29) (by omega) rfl jq (rfl) (by omega) (by omega) dX10_sendWord_232 ?_
                      refine g_top (y := zI (G 29 jq)) (hR 29 jq (by omega) (by omega) (by omega)) ?_
                      refine lv_iconst (v := nI 1) hx hb dX10_sendWord_233 (by decide) ?_
                      refine lv_isub hx hb dX10_sendWord_234 ?_
                      refine g_top (y := zI ((G 29 jq) - 1)) (zI_sub_in _ _) ?_
                      refine lv_iload_n hx hb dX10_sendWord_235 rfl (lv_at hl 6 rfl) ?_
                      refine lv_bipush (v := nI 16) hx hb dX10_sendWord_236 (by decide) ?_
                      refine lv_isub hx hb dX10_sendWord_238 ?_
                      refine g_top (y := zI (bq - 16)) (zI_sub_in _ _) ?_
                      refine lv_bipush (v := nI 24) hx hb dX10_sendWord_239 (by decide) ?_
                      refine lv_iload hx hb dX10_sendWord_241 (lv_at hl 0 rfl) ?_
                      refine lv_imul hx hb dX10_sendWord_243 ?_
                      refine g_top (y := nI (24 * gq)) (by rw [pk_mul]) ?_
                      refine lv_isub hx hb dX10_sendWord_244 ?_
                      refine g_top (y := zI ((bq - 16) - ((24 * gq : Nat) : Int))) (zI_sub_in _ _) ?_
                      refine lv_aload_n hx hb dX10_sendWord_245 rfl (lv_at hl 3 rfl) ?_
                      refine g_get (C := RX10) (T := TX10) (NN := 35) (ci := 10) hx hb hts hinX10 hown hE hG (k := 28) (by omega) rfl rfl 6 (by decide) (hts (.fieldLink RX10 25 "CommutatorModel" "offset" "[I") (List.mem_of_getElem? (i := 4) rfl)) rfl (v := .ref (ad 34)) rfl dX10_sendWord_246 ?_
                      refine lv_iload hx hb dX10_sendWord_249 (lv_at hl 1 rfl) ?_
                      refine g_iald hx hb hE hG (k := 34) (by omega) rfl jq (rfl) (by omega) (by omega) dX10_sendWord_251 ?_
                      refine g_top (y := zI (G 34 jq)) (hR 34 jq (by omega) (by omega) (by omega)) ?_
                      refine lv_isub hx hb dX10_sendWord_252 ?_
                      refine g_top (y := zI (((bq - 16) - ((24 * gq : Nat) : Int)) - (G 34 jq))) (zI_sub _ _) ?_
                      refine lv_isub hx hb dX10_sendWord_253 ?_
                      refine g_top (y := zI (((G 29 jq) - 1) - (((bq - 16) - ((24 * gq : Nat) : Int)) - (G 34 jq)))) (zI_sub _ _) ?_
                      refine lv_ishr hx hb dX10_sendWord_254 ?_
                      refine lv_iconst (v := nI 1) hx hb dX10_sendWord_255 (by decide) ?_
                      refine lv_iand hx hb dX10_sendWord_256 ?_
                      refine g_top (y := zI (tb (mSW1 G 36 (2 * jq + gq)) (G 29 jq - 1 - (bq - 16 - ((24 * gq : Nat) : Int) - G 34 jq)))) (z_tb (by omega) (by omega) (by omega) (by omega)) ?_
                      refine lv_istore (lv' := [(4, .int (zI (tb (mSW1 G 36 (2 * jq + gq)) (G 29 jq - 1 - (bq - 16 - ((24 * gq : Nat) : Int) - G 34 jq))))), (6, .int (nI gq)), (5, .int (nI jq)), (0, .ref (ad 28)), (1, .int (zI (mWd G))), (2, .int (zI (mCtr G))), (3, .int (zI bq))]) hx hb dX10_sendWord_257 hl (by decide) rfl (fun ls hl => ?_)
                      exact LLq259 (tb (mSW1 G 36 (2 * jq + gq)) (G 29 jq - 1 - (bq - 16 - ((24 * gq : Nat) : Int) - G 34 jq))) (by first | exact mBit_n hvq huq c184 | exact mBit_u hu8.1 (hu8.2.symm.trans hj8) hgq) _ _ _ hG (lv_sub hl [3, 4, 5, 6, 0] rfl)
                    refine lv_aload_n hx hb dX10_sendWord_187 rfl (lv_at hl 2 rfl) ?_
                    refine g_get (C := RX10) (T := TX10) (NN := 35) (ci := 10) hx hb hts hinX10 hown hE hG (k := 28) (by omega) rfl rfl 4 (by decide) (hts (.fieldLink RX10 19 "CommutatorModel" "samplesEach" "[I") (List.mem_of_getElem? (i := 3) rfl)) rfl (v := .ref (ad 32)) rfl dX10_sendWord_188 ?_
                    refine lv_iload hx hb dX10_sendWord_191 (lv_at hl 0 rfl) ?_
                    refine g_iald hx hb hE hG (k := 32) (by omega) rfl jq (rfl) (by omega) (by omega) dX10_sendWord_193 ?_
                    refine g_top (y := zI (G 32 jq)) (hR 32 jq (by omega) (by omega) (by omega)) ?_
                    refine lv_iconst (v := nI 2) hx hb dX10_sendWord_194 (by decide) ?_
                    refine lv_icmp_ne (tgt := 211) hx hb dX10_sendWord_195 (by decide) (fun c195 => ?_) (fun c195 => ?_)
                    · skip
                      have c195 : ¬ ((G 32 jq) = ((2 : Nat) : Int)) := fun z9 => c195 ((cmp_eq (zI_toInt (by omega) (by omega)) (nI_toInt (by omega))).mpr z9)
                      refine lv_iconst (v := nI 0) hx hb dX10_sendWord_211 (by decide) ?_
                      exact LLq212 0 (by first | rw [if_pos (by omega)] | rw [if_neg (by omega)]) _ _ _ hG (lv_sub hl [0, 1, 2, 3, 4, 5] rfl)
                    · skip
                      have c195 : (G 32 jq) = ((2 : Nat) : Int) := (cmp_eq (zI_toInt (by omega) (by omega)) (nI_toInt (by omega))).mp c195
                      refine lv_iload_n hx hb dX10_sendWord_198 rfl (lv_at hl 5 rfl) ?_
                      refine lv_bipush (v := nI 16) hx hb dX10_sendWord_199 (by decide) ?_
                      refine lv_isub hx hb dX10_sendWord_201 ?_
                      refine g_top (y := zI (bq - 16)) (zI_sub_in _ _) ?_
                      refine lv_bipush (v := nI 24) hx hb dX10_sendWord_202 (by decide) ?_
                      refine lv_icmp_lt (tgt := 211) hx hb dX10_sendWord_204 (by decide) (fun c204 => ?_) (fun c204 => ?_)
                      · skip
                        have c204 : (bq - 16) < ((24 : Nat) : Int) := (cmp_lt (zI_toInt (by omega) (by omega)) (nI_toInt (by omega))).mp c204
                        refine lv_iconst (v := nI 0) hx hb dX10_sendWord_211 (by decide) ?_
                        exact LLq212 0 (by first | rw [if_pos (by omega)] | rw [if_neg (by omega)]) _ _ _ hG (lv_sub hl [0, 1, 2, 3, 4, 5] rfl)
                      · skip
                        have c204 : ¬ ((bq - 16) < ((24 : Nat) : Int)) := fun z9 => c204 ((cmp_lt (zI_toInt (by omega) (by omega)) (nI_toInt (by omega))).mpr z9)
                        refine lv_iconst (v := nI 1) hx hb dX10_sendWord_207 (by decide) ?_
                        refine lv_goto (tgt := 212) hx hb dX10_sendWord_208 (by decide) ?_
                        exact LLq212 1 (by first | rw [if_pos (by omega)] | rw [if_neg (by omega)]) _ _ _ hG (lv_sub hl [0, 1, 2, 3, 4, 5] rfl)
                refine lv_iload_n hx hb dX10_sendWord_161 rfl (lv_at hl 2 rfl) ?_
                refine lv_iconst (v := nI 2) hx hb dX10_sendWord_162 (by decide) ?_
                refine lv_icmp_ge (tgt := 170) hx hb dX10_sendWord_163 (by decide) (fun c163 => ?_) (fun c163 => ?_)
                · skip
                  have c163 : ((2 : Nat) : Int) ≤ (mWd G) := (cmp_le (nI_toInt (by omega)) (zI_toInt (by omega) (by omega))).mp c163
                  refine lv_aload_n hx hb dX10_sendWord_170 rfl (lv_at hl 1 rfl) ?_
                  refine lv_iload_n hx hb dX10_sendWord_171 rfl (lv_at hl 3 rfl) ?_
                  refine lv_iload_n hx hb dX10_sendWord_172 rfl (lv_at hl 4 rfl) ?_
                  refine lv_bipush (v := nI 16) hx hb dX10_sendWord_173 (by decide) ?_
                  refine lv_isub hx hb dX10_sendWord_175 ?_
                  refine g_top (y := zI (bq - 16)) (zI_sub_in _ _) ?_
                  refine g_callV (As := [.int (zI (mCtr G)), .int (zI (bq - 16))]) (rest := []) (r := (RX10, TX10, 35)) ⟨hx, hb, hml, hown, hts⟩ hE hG (cX10_userOfC l D cy base ad n Aq J G (mCtr G) (bq - 16) hR.stSW (by first | assumption | omega) (by first | assumption | omega) (by first | assumption | omega) (by first | assumption | omega) (by first | assumption | omega)) (cwV 2 hts gX10_sendWord_X10_userOf rfl rfl rfl (by decide +kernel) ⟨Nat.le_of_ble_eq_true rfl, Nat.le_of_ble_eq_true rfl⟩) (by omega) rfl rfl rfl hl.1 rfl (Nat.le_of_ble_eq_true rfl) dX10_sendWord_176 ⟨Nat.zero_le _, Nat.zero_le _⟩ (fun v_ A176 J176 H locs hp hG => ?_)
                  obtain ⟨rfl, rfl, rfl⟩ := hp
                  refine W.eq (g2 := F0 mM 179 ls [.int (zI (mUser G (mCtr G) (bq - 16) (G 28 0).toNat))]) rfl ?_
                  exact LLq179 (mUser G (mCtr G) (bq - 16) (G 28 0).toNat) (by first | (left; omega) | (right; exact ⟨by omega, rfl⟩)) _ _ _ hG (lv_sub hl [0, 1, 2, 3, 4] rfl)
                · skip
                  have c163 : ¬ (((2 : Nat) : Int) ≤ (mWd G)) := fun z9 => c163 ((cmp_le (nI_toInt (by omega)) (zI_toInt (by omega) (by omega))).mpr z9)
                  refine lv_iconst (v := zI (-1)) hx hb dX10_sendWord_166 (by decide) ?_
                  refine lv_goto (tgt := 179) hx hb dX10_sendWord_167 (by decide) ?_
                  exact LLq179 (-1) (by first | (left; omega) | (right; exact ⟨by omega, rfl⟩)) _ _ _ hG (lv_sub hl [0, 1, 2, 3, 4] rfl)
              refine lv_iload_n hx hb dX10_sendWord_125 rfl (lv_at hl 1 rfl) ?_
              refine lv_if_ne (tgt := 142) hx hb dX10_sendWord_126 (by decide) (fun c126 => ?_) (fun c126 => ?_)
              · skip
                have c126 : ¬ ((zI (mWd G)) = nI 0) := c126
                have c126 : ¬ ((mWd G) = ((0 : Nat) : Int)) := fun z9 => c126 ((cmp_eq (zI_toInt (by omega) (by omega)) (nI_toInt (by omega))).mpr z9)
                refine lv_iload_n hx hb dX10_sendWord_142 rfl (lv_at hl 1 rfl) ?_
                refine lv_iconst (v := nI 1) hx hb dX10_sendWord_143 (by decide) ?_
                refine lv_icmp_ne (tgt := 158) hx hb dX10_sendWord_144 (by decide) (fun c144 => ?_) (fun c144 => ?_)
                · skip
                  have c144 : ¬ ((mWd G) = ((1 : Nat) : Int)) := fun z9 => c144 ((cmp_eq (zI_toInt (by omega) (by omega)) (nI_toInt (by omega))).mpr z9)
                  refine lv_iconst (v := nI 0) hx hb dX10_sendWord_158 (by decide) ?_
                  exact LLq159 0 (by refine ⟨?_, ?_, ?_⟩ <;> intros <;> first | rfl | (exfalso; omega)) _ _ _ hG (lv_sub hl [0, 1, 2, 3] rfl)
                · skip
                  have c144 : (mWd G) = ((1 : Nat) : Int) := (cmp_eq (zI_toInt (by omega) (by omega)) (nI_toInt (by omega))).mp c144
                  refine lv_iload_n hx hb dX10_sendWord_147 rfl (lv_at hl 2 rfl) ?_
                  refine lv_bipush (v := nI 15) hx hb dX10_sendWord_148 (by decide) ?_
                  refine lv_iload_n hx hb dX10_sendWord_150 rfl (lv_at hl 3 rfl) ?_
                  refine lv_isub hx hb dX10_sendWord_151 ?_
                  refine g_top (y := zI (15 - bq)) (zI_sub_ni _ _) ?_
                  refine lv_ishr hx hb dX10_sendWord_152 ?_
                  refine g_top (y := zI (mCtr G) >>> (zI (15 - bq) &&& 31)) (rfl) ?_
                  refine lv_iconst (v := nI 1) hx hb dX10_sendWord_153 (by decide) ?_
                  refine lv_iand hx hb dX10_sendWord_154 ?_
                  refine g_top (y := zI (tb (mCtr G) (15 - bq))) (z_tb (by omega) (by omega) (by omega) (by omega)) ?_
                  refine lv_goto (tgt := 159) hx hb dX10_sendWord_155 (by decide) ?_
                  exact LLq159 (tb (mCtr G) (15 - bq)) (by refine ⟨?_, ?_, ?_⟩ <;> intros <;> first | rfl | (exfalso; omega)) _ _ _ hG (lv_sub hl [0, 1, 2, 3] rfl)
              · skip
                have c126 : (zI (mWd G)) = nI 0 := c126
                have c126 : (mWd G) = ((0 : Nat) : Int) := (cmp_eq (zI_toInt (by omega) (by omega)) (nI_toInt (by omega))).mp c126
                refine lv_sipush (v := nI 184) hx hb dX10_sendWord_129 (by decide) ?_
                refine lv_bipush (v := nI 7) hx hb dX10_sendWord_132 (by decide) ?_
                refine lv_iload_n hx hb dX10_sendWord_134 rfl (lv_at hl 3 rfl) ?_
                refine lv_isub hx hb dX10_sendWord_135 ?_
                refine g_top (y := zI (7 - bq)) (zI_sub_ni _ _) ?_
                refine lv_ishr hx hb dX10_sendWord_136 ?_
                refine g_top (y := zI 184 >>> (zI (7 - bq) &&& 31)) (rfl) ?_
                refine lv_iconst (v := nI 1) hx hb dX10_sendWord_137 (by decide) ?_
                refine lv_iand hx hb dX10_sendWord_138 ?_
                refine g_top (y := zI (tb 184 (7 - bq))) (z_tb (by omega) (by omega) (by omega) (by omega)) ?_
                refine lv_goto (tgt := 159) hx hb dX10_sendWord_139 (by decide) ?_
                exact LLq159 (tb 184 (7 - bq)) (by refine ⟨?_, ?_, ?_⟩ <;> intros <;> first | rfl | (exfalso; omega)) _ _ _ hG (lv_sub hl [0, 1, 2, 3] rfl)
        have hRn : MRep Aq (mSW1 G) := by have h9 : kq = (G 28 0).toNat := (by omega); subst h9; exact hR
        exact LLq114 _ 0 (8 * (mWd G)) Aq (by omega) (by omega) (MRep.to hRn (fun k9 j9 _ _ => mSW2_0 G k9 j9)) hO hth (Nat.lt_succ_self _) _ _ _ hG (lv_sub hl [1, 2, 3, 0] rfl)
      · skip
        have c27 : ¬ ((G 28 0) ≤ ((kq : Nat) : Int)) := fun z9 => c27 ((cmp_le (zI_toInt (by omega) (by omega)) (nI_toInt (by omega))).mpr z9)
        have hTk := hT.2.2 kq (by omega)
        have hpk := hpr kq (by omega)
        refine lv_iconst (v := nI 0) hx hb dX10_sendWord_30 (by decide) ?_
        refine lv_istore (lv' := [(4, .int (nI 0)), (0, .ref (ad 28)), (1, .int (zI (mWd G))), (2, .int (zI (mCtr G))), (3, .int (nI kq))]) hx hb dX10_sendWord_31 hl (by decide) rfl (fun ls hl => ?_)
        have LLq33 : ∀ (fuel : Nat) (eq : Nat) (Aq : Nat → Nat → Int32) (he : (eq : Int) ≤ G 32 kq) (hR : MRep Aq (gr G 36 (mSnd G (mCtr G) (mWd G) (2 * kq + eq)))) (hO : MOnly A Aq) (hth : Aq 28 34 = A 28 34) (_ : (2 - eq) < fuel) (H : Heap) (locs : List Loc) (ls : Array Slot), gH D base sM ad (50 + 2 * n) (gw cy ad n Aq J) H locs → lv_has ls 7 [(0, .ref (ad 28)), (1, .int (zI (mWd G))), (2, .int (zI (mCtr G))), (3, .int (nI kq)), (4, .int (nI eq))] → W pM l eM ({ frames := 2, cells := 0, slots := 0, locals := 48 } : Room) sM mM aM bM methM cM H locs 0 0 (MQ bM (gPost D cy base ad n (PX10_sendWord ad A J G)) aM sM 0 0 (fun q => base ≤ q)) (F0 mM 33 ls []) := by
          intro fuel
          induction fuel with
          | zero => intro eq Aq he hR hO hth hms H locs ls hG hl; exact absurd hms (Nat.not_lt_zero _)
          | succ fuel ihq33 =>
            intro eq Aq he hR hO hth hms H locs ls hG hl
            refine lv_iload hx hb dX10_sendWord_33 (lv_at hl 4 rfl) ?_
            refine lv_aload_n hx hb dX10_sendWord_35 rfl (lv_at hl 0 rfl) ?_
            refine g_get (C := RX10) (T := TX10) (NN := 35) (ci := 10) hx hb hts hinX10 hown hE hG (k := 28) (by omega) rfl rfl 4 (by decide) (hts (.fieldLink RX10 19 "CommutatorModel" "samplesEach" "[I") (List.mem_of_getElem? (i := 3) rfl)) rfl (v := .ref (ad 32)) rfl dX10_sendWord_36 ?_
            refine lv_iload_n hx hb dX10_sendWord_39 rfl (lv_at hl 3 rfl) ?_
            refine g_iald hx hb hE hG (k := 32) (by omega) rfl kq (rfl) (by omega) (by omega) dX10_sendWord_40 ?_
            refine g_top (y := zI (G 32 kq)) (hR 32 kq (by omega) (by omega) (by omega)) ?_
            refine lv_icmp_ge (tgt := 103) hx hb dX10_sendWord_41 (by decide) (fun c41 => ?_) (fun c41 => ?_)
            · skip
              have c41 : (G 32 kq) ≤ ((eq : Nat) : Int) := (cmp_le (zI_toInt (by omega) (by omega)) (nI_toInt (by omega))).mp c41
              refine lv_iinc (v := nI (kq + 1)) (lv' := [(3, .int (nI (kq + 1))), (0, .ref (ad 28)), (1, .int (zI (mWd G))), (2, .int (zI (mCtr G))), (4, .int (nI eq))]) hx hb dX10_sendWord_103 hl (k := 3) rfl (by rw [show (Int32.ofInt 1 : Int32) = nI 1 from rfl, nI_add]) (by decide) rfl (fun ls hl => ?_)
              refine lv_goto (tgt := 22) hx hb dX10_sendWord_106 (by decide) ?_
              have hR9 : MRep Aq (gr G 36 (mSnd G (mCtr G) (mWd G) (2 * (kq + 1)))) := by
                by_cases h9 : eq = 2
                · subst h9; exact hR
                · refine (hR.row2 (fun j9 => ?_))
                  rw [show 2 * (kq + 1) = 2 * kq + eq + 1 by omega]
                  exact mSnd_0 (fun z9 => by have z8 := z9.1; rw [show (2 * kq + eq) % 2 = 1 by omega, show (2 * kq + eq) / 2 = kq by omega] at z8; omega) j9
              exact ihq22 (kq + 1) Aq (by omega) hR9 hO hth (by omega) _ _ _ hG (lv_sub hl [1, 2, 3, 0] rfl)
            · skip
              have c41 : ¬ ((G 32 kq) ≤ ((eq : Nat) : Int)) := fun z9 => c41 ((cmp_le (zI_toInt (by omega) (by omega)) (nI_toInt (by omega))).mpr z9)
              refine lv_aload_n hx hb dX10_sendWord_44 rfl (lv_at hl 0 rfl) ?_
              refine lv_iload_n hx hb dX10_sendWord_45 rfl (lv_at hl 3 rfl) ?_
              refine lv_iload_n hx hb dX10_sendWord_46 rfl (lv_at hl 2 rfl) ?_
              refine g_callV (As := [.int (nI kq), .int (zI (mCtr G))]) (rest := []) (r := (RX10, TX10, 35)) ⟨hx, hb, hml, hown, hts⟩ hE hG (cX10_isSentC l D cy base ad n Aq J G kq (mCtr G) hR.st36 (by first | assumption | omega) (by first | assumption | omega) (by first | assumption | omega) (by first | assumption | omega)) (cwV 2 hts gX10_sendWord_X10_isSent rfl rfl rfl (by decide +kernel) ⟨Nat.le_of_ble_eq_true rfl, Nat.le_of_ble_eq_true rfl⟩) (by omega) rfl rfl rfl hl.1 rfl (Nat.le_of_ble_eq_true rfl) dX10_sendWord_47 ⟨Nat.zero_le _, Nat.zero_le _⟩ (fun v_ A47 J47 H locs hp hG => ?_)
              rcases hp with ⟨rfl, rfl, rfl, hC_47⟩ | ⟨rfl, rfl, rfl, hC_47⟩
              · refine W.eq (g2 := F0 mM 50 ls [.int (nI 1)]) rfl ?_
                refine lv_if_eq (tgt := 97) hx hb dX10_sendWord_50 (by decide) (fun c50 => ?_) (fun c50 => ?_)
                · skip
                  exact absurd c50 (by decide)
                · skip
                  refine lv_bipush (v := nI 16) hx hb dX10_sendWord_53 (by decide) ?_
                  refine lv_aload_n hx hb dX10_sendWord_55 rfl (lv_at hl 0 rfl) ?_
                  refine g_get (C := RX10) (T := TX10) (NN := 35) (ci := 10) hx hb hts hinX10 hown hE hG (k := 28) (by omega) rfl rfl 6 (by decide) (hts (.fieldLink RX10 25 "CommutatorModel" "offset" "[I") (List.mem_of_getElem? (i := 4) rfl)) rfl (v := .ref (ad 34)) rfl dX10_sendWord_56 ?_
                  refine lv_iload_n hx hb dX10_sendWord_59 rfl (lv_at hl 3 rfl) ?_
                  refine g_iald hx hb hE hG (k := 34) (by omega) rfl kq (rfl) (by omega) (by omega) dX10_sendWord_60 ?_
                  refine g_top (y := zI (G 34 kq)) (hR 34 kq (by omega) (by omega) (by omega)) ?_
                  refine lv_iadd hx hb dX10_sendWord_61 ?_
                  refine g_top (y := zI (16 + (G 34 kq))) (zI_add_ni _ _) ?_
                  refine lv_bipush (v := nI 24) hx hb dX10_sendWord_62 (by decide) ?_
                  refine lv_iload hx hb dX10_sendWord_64 (lv_at hl 4 rfl) ?_
                  refine lv_imul hx hb dX10_sendWord_66 ?_
                  refine g_top (y := nI (24 * eq)) (by rw [pk_mul]) ?_
                  refine lv_iadd hx hb dX10_sendWord_67 ?_
                  refine g_top (y := zI ((16 + (G 34 kq)) + ((24 * eq : Nat) : Int))) (zI_add_in _ _) ?_
                  refine lv_bipush (v := nI 8) hx hb dX10_sendWord_68 (by decide) ?_
                  refine lv_idiv hx hb dX10_sendWord_70 (by decide) ?_
                  refine g_top (y := zI ((16 + G 34 kq + ((24 * eq : Nat) : Int)) / 8)) (zI_div (b := 8) (by omega) (by omega) (by omega) (by omega)) ?_
                  refine lv_iload_n hx hb dX10_sendWord_71 rfl (lv_at hl 1 rfl) ?_
                  refine lv_icmp_ne (tgt := 97) hx hb dX10_sendWord_72 (by decide) (fun c72 => ?_) (fun c72 => ?_)
                  · skip
                    have c72 : ¬ (((16 + G 34 kq + ((24 * eq : Nat) : Int)) / 8) = (mWd G)) := fun z9 => c72 ((cmp_eq (zI_toInt (by omega) (by omega)) (zI_toInt (by omega) (by omega))).mpr z9)
                    refine lv_iinc (v := nI (eq + 1)) (lv' := [(4, .int (nI (eq + 1))), (0, .ref (ad 28)), (1, .int (zI (mWd G))), (2, .int (zI (mCtr G))), (3, .int (nI kq))]) hx hb dX10_sendWord_97 hl (k := 4) rfl (by rw [show (Int32.ofInt 1 : Int32) = nI 1 from rfl, nI_add]) (by decide) rfl (fun ls hl => ?_)
                    refine lv_goto (tgt := 33) hx hb dX10_sendWord_100 (by decide) ?_
                    exact ihq33 (eq + 1) Aq (by omega) (by first | exact hR.row2 (fun j9 => mSnd_0 (fun z9 => by have z7 := z9.1; have z8 := z9.2; rw [show (2 * kq + eq) % 2 = eq by omega, show (2 * kq + eq) / 2 = kq by omega] at z8; omega) j9) | exact hR.row3 (fun j9 => by have h8 := mSnd_1 (G := G) (c := mCtr G) (wd := mWd G) (q := 2 * kq + eq) (by unfold sndC; rw [show (2 * kq + eq) % 2 = eq by omega, show (2 * kq + eq) / 2 = kq by omega]; omega) j9; rw [show (2 * kq + eq) / 2 = kq by omega] at h8; exact h8)) (by first | exact hO | exact (hO.up _ _ (by decide) (by decide))) (by first | exact hth | (rw [gu_ne _ _ _ (by decide)]; exact hth)) (by omega) _ _ _ hG (lv_sub hl [1, 2, 3, 4, 0] rfl)
                  · skip
                    have c72 : ((16 + G 34 kq + ((24 * eq : Nat) : Int)) / 8) = (mWd G) := (cmp_eq (zI_toInt (by omega) (by omega)) (zI_toInt (by omega) (by omega))).mp c72
                    refine lv_aload_n hx hb dX10_sendWord_75 rfl (lv_at hl 0 rfl) ?_
                    refine g_get (C := RX10) (T := TX10) (NN := 35) (ci := 10) hx hb hts hinX10 hown hE hG (k := 28) (by omega) rfl rfl 8 (by decide) (hts (.fieldLink RX10 31 "CommutatorModel" "sending" "[I") (List.mem_of_getElem? (i := 5) rfl)) rfl (v := .ref (ad 36)) rfl dX10_sendWord_76 ?_
                    refine lv_iconst (v := nI 2) hx hb dX10_sendWord_79 (by decide) ?_
                    refine lv_iload_n hx hb dX10_sendWord_80 rfl (lv_at hl 3 rfl) ?_
                    refine lv_imul hx hb dX10_sendWord_81 ?_
                    refine g_top (y := nI (2 * kq)) (by rw [pk_mul]) ?_
                    refine lv_iload hx hb dX10_sendWord_82 (lv_at hl 4 rfl) ?_
                    refine lv_iadd hx hb dX10_sendWord_84 ?_
                    refine g_top (y := nI (2 * kq + eq)) (by rw [nI_add]) ?_
                    refine lv_aload_n hx hb dX10_sendWord_85 rfl (lv_at hl 0 rfl) ?_
                    refine lv_iload_n hx hb dX10_sendWord_86 rfl (lv_at hl 3 rfl) ?_
                    refine lv_aload_n hx hb dX10_sendWord_87 rfl (lv_at hl 0 rfl) ?_
                    refine g_get (C := RX10) (T := TX10) (NN := 35) (ci := 10) hx hb hts hinX10 hown hE hG (k := 28) (by omega) rfl rfl 7 (by decide) (hts (.fieldLink RX10 28 "CommutatorModel" "present" "[I") (List.mem_of_getElem? (i := 6) rfl)) rfl (v := .ref (ad 35)) rfl dX10_sendWord_88 ?_
                    refine lv_iload_n hx hb dX10_sendWord_91 rfl (lv_at hl 3 rfl) ?_
                    refine g_iald hx hb hE hG (k := 35) (by omega) rfl kq (rfl) (by omega) (by omega) dX10_sendWord_92 ?_
                    refine g_top (y := zI (G 35 kq)) (hR 35 kq (by omega) (by omega) (by omega)) ?_
                    refine g_callV (As := [.int (nI kq), .int (zI (G 35 kq))]) (rest := [.int (nI (2 * kq + eq)), .ref (ad 36)]) (r := (RX10, TX10, 35)) ⟨hx, hb, hml, hown, hts⟩ hE hG (cX10_codedC l D cy base ad n Aq J G kq (G 35 kq) hR.st36 (by first | assumption | omega) (by first | assumption | omega) (by first | assumption | omega)) (cwV 2 hts gX10_sendWord_X10_coded rfl rfl rfl (by decide +kernel) ⟨Nat.le_of_ble_eq_true rfl, Nat.le_of_ble_eq_true rfl⟩) (by omega) rfl rfl rfl hl.1 rfl (Nat.le_of_ble_eq_true rfl) dX10_sendWord_93 ⟨Nat.zero_le _, Nat.zero_le _⟩ (fun v_ A93 J93 H locs hp hG => ?_)
                    obtain ⟨rfl, rfl, rfl⟩ := hp
                    refine W.eq (g2 := F0 mM 96 ls [.int (zI (gEnc (G 30 kq) (G 29 kq) (G 35 kq))), .int (nI (2 * kq + eq)), .ref (ad 36)]) rfl ?_
                    refine g_iast hx hb hE hG (k := 36) (by omega) (fun _ => rfl) (2 * kq + eq) (rfl) (by omega) (by omega) dX10_sendWord_96 (fun H locs hG => ?_)
                    refine lv_iinc (v := nI (eq + 1)) (lv' := [(4, .int (nI (eq + 1))), (0, .ref (ad 28)), (1, .int (zI (mWd G))), (2, .int (zI (mCtr G))), (3, .int (nI kq))]) hx hb dX10_sendWord_97 hl (k := 4) rfl (by rw [show (Int32.ofInt 1 : Int32) = nI 1 from rfl, nI_add]) (by decide) rfl (fun ls hl => ?_)
                    refine lv_goto (tgt := 33) hx hb dX10_sendWord_100 (by decide) ?_
                    exact ihq33 (eq + 1) (gu Aq 36 (2 * kq + eq) (zI (gEnc (G 30 kq) (G 29 kq) (G 35 kq)))) (by omega) (by first | exact hR.row2 (fun j9 => mSnd_0 (fun z9 => by have z7 := z9.1; have z8 := z9.2; rw [show (2 * kq + eq) % 2 = eq by omega, show (2 * kq + eq) / 2 = kq by omega] at z8; omega) j9) | exact hR.row3 (fun j9 => by have h8 := mSnd_1 (G := G) (c := mCtr G) (wd := mWd G) (q := 2 * kq + eq) (by unfold sndC; rw [show (2 * kq + eq) % 2 = eq by omega, show (2 * kq + eq) / 2 = kq by omega]; omega) j9; rw [show (2 * kq + eq) / 2 = kq by omega] at h8; exact h8)) (by first | exact hO | exact (hO.up _ _ (by decide) (by decide))) (by first | exact hth | (rw [gu_ne _ _ _ (by decide)]; exact hth)) (by omega) _ _ _ hG (lv_sub hl [1, 2, 3, 4, 0] rfl)
              · refine W.eq (g2 := F0 mM 50 ls [.int (nI 0)]) rfl ?_
                refine lv_if_eq (tgt := 97) hx hb dX10_sendWord_50 (by decide) (fun c50 => ?_) (fun c50 => ?_)
                · skip
                  refine lv_iinc (v := nI (eq + 1)) (lv' := [(4, .int (nI (eq + 1))), (0, .ref (ad 28)), (1, .int (zI (mWd G))), (2, .int (zI (mCtr G))), (3, .int (nI kq))]) hx hb dX10_sendWord_97 hl (k := 4) rfl (by rw [show (Int32.ofInt 1 : Int32) = nI 1 from rfl, nI_add]) (by decide) rfl (fun ls hl => ?_)
                  refine lv_goto (tgt := 33) hx hb dX10_sendWord_100 (by decide) ?_
                  exact ihq33 (eq + 1) Aq (by omega) (by first | exact hR.row2 (fun j9 => mSnd_0 (fun z9 => by have z7 := z9.1; have z8 := z9.2; rw [show (2 * kq + eq) % 2 = eq by omega, show (2 * kq + eq) / 2 = kq by omega] at z8; omega) j9) | exact hR.row3 (fun j9 => by have h8 := mSnd_1 (G := G) (c := mCtr G) (wd := mWd G) (q := 2 * kq + eq) (by unfold sndC; rw [show (2 * kq + eq) % 2 = eq by omega, show (2 * kq + eq) / 2 = kq by omega]; omega) j9; rw [show (2 * kq + eq) / 2 = kq by omega] at h8; exact h8)) (by first | exact hO | exact (hO.up _ _ (by decide) (by decide))) (by first | exact hth | (rw [gu_ne _ _ _ (by decide)]; exact hth)) (by omega) _ _ _ hG (lv_sub hl [1, 2, 3, 4, 0] rfl)
                · skip
                  exact absurd c50 (by decide)
        exact LLq33 _ 0 Aq (by omega) hR hO hth (Nat.lt_succ_self _) _ _ _ hG (lv_sub hl [1, 2, 3, 4, 0] rfl)
  exact LLq22 _ 0 A (by omega) (hM.row (fun j9 => (mSnd_z G _ _ j9).symm)) MOnly.rf rfl (Nat.lt_succ_self _) _ _ _ hG (lv_sub hl [3, 2, 1, 0] rfl)
