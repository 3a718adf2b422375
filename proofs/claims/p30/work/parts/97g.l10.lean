set_option maxHeartbeats 4000000 in
set_option maxRecDepth 100000 in
theorem packer_1 (l : Launch) (D : va_G) (cy : Nat → ClassId) (base : Nat) {pM : Program} {eM : Env} {sM : State} {mM : MethodId} {aM : Array Value} {bM : List Frame} {methM : Method} {cM : Code} (QQ : State → Prop) (hx : pM.tables.exec = Jvm.exec) (hb : cM.code = cL_packer) (hr : methM.sig.returnType = (some .boolean)) (hts : ∀ w ∈ wsL_packer, w.before aM sM = true) (hown : sM.vm.findClass yL_packer.cls = some mM.cls) (hlocks : methM.locks = false) (hml : cM.maxLocals = 13) (hE : gE D cy base sM) (bS LS atN : Nat) (xs : Nat → Int32) (hst : l.stackTraces = false) (hXS : gXS bS LS xs base sM) (hat : atN ≤ 400) (whN : Nat) (hK2 : ∀ (ad : Nat → Nat) (n : Nat) (A : Nat → Nat → Int32) (J : Nat → Nat → Int64) (G : Nat → Nat → Int) (H : Heap) (locs : List Loc) (ls : Array Slot), n ≠ 0 → LI n A J G → G 28 9 = 0 → gH D base sM ad (33 + 2 * n) (gw cy ad n A J) H locs → lv_has ls 13 [(0, .ref bS), (1, .int (nI atN)), (2, .int (nI whN)), (3, .ref (ad 0)), (4, .ref (ad 28)), (5, .ref (ad 29)), (6, .ref (ad 30)), (7, .ref (ad 31)), (8, .ref (ad 32)), (9, .int (nI 1)), (10, .int (nI 0))] → W pM l eM ({ frames := 11, cells := 12700, slots := 86000, locals := 300 } : Room) sM mM aM bM methM cM H locs (120) (8900) QQ (F0 mM 156 ls [])) (ad : Nat → Nat) (n : Nat) (A : Nat → Nat → Int32) (J : Nat → Nat → Int64) (G : Nat → Nat → Int) (hL0 : LI n A J G) (h090 : G 28 9 = 0) (hJ0 : J 29 = J 3) (H : Heap) (locs : List Loc) (ls : Array Slot) (hG : gH D base sM ad (33 + 2 * n) (gw cy ad n A J) H locs) (hl : lv_has ls 13 [(0, .ref bS), (1, .int (nI atN)), (2, .int (nI whN)), (3, .ref (ad 0)), (4, .ref (ad 28)), (5, .ref (ad 29)), (6, .ref (ad 30)), (7, .ref (ad 31)), (8, .ref (ad 32)), (9, .int (nI 1)), (10, .int (nI 0))]) : W pM l eM ({ frames := 11, cells := 12700, slots := 86000, locals := 300 } : Room) sM mM aM bM methM cM H locs (40) (8400) QQ (F0 mM 47 ls []) := by
  have LLq47 : ∀ (fuel : Nat) (ad : Nat → Nat) (n : Nat) (Aq : Nat → Nat → Int32) (Jq : Nat → Nat → Int64) (Gq : Nat → Nat → Int) (kN : Nat) (hkN : kN ≤ 9) (hL : LI n Aq Jq Gq) (h09 : Gq 28 9 = 0) (hJ9 : Jq 29 = Jq 3) (hn9 : kN ≠ 0 → n ≠ 0) (_ : (9 - kN) < fuel) (H : Heap) (locs : List Loc) (ls : Array Slot), gH D base sM ad (33 + 2 * n) (gw cy ad n Aq Jq) H locs → lv_has ls 13 [(0, .ref bS), (1, .int (nI atN)), (2, .int (nI whN)), (3, .ref (ad 0)), (4, .ref (ad 28)), (5, .ref (ad 29)), (6, .ref (ad 30)), (7, .ref (ad 31)), (8, .ref (ad 32)), (9, .int (nI 1)), (10, .int (nI kN))] → W pM l eM ({ frames := 11, cells := 12700, slots := 86000, locals := 300 } : Room) sM mM aM bM methM cM H locs (40 + 7 * kN) (8400 + 40 * kN) (QQ) (F0 mM 47 ls []) := by
    intro fuel
    induction fuel with
    | zero => intro ad n Aq Jq Gq kN hkN hL h09 hJ9 hn9 hms H locs ls hG hl; exact absurd hms (Nat.not_lt_zero _)
    | succ fuel ihq47 =>
      intro ad n Aq Jq Gq kN hkN hL h09 hJ9 hn9 hms H locs ls hG hl
      refine lv_iload hx hb dL_packer_47 (lv_at hl 10 rfl) ?_
      refine lv_bipush (v := nI 9) hx hb dL_packer_49 (by decide) ?_
      refine lv_icmp_ge (tgt := 153) hx hb dL_packer_51 (by decide) (fun c51 => ?_) (fun c51 => ?_)
      · skip
        have c51 : 9 ≤ kN := (nI_leI (by omega) (by omega)).mp c51
        refine lv_iconst (v := nI 0) hx hb dL_packer_153 (by decide) ?_
        refine lv_istore (lv' := [(10, .int (nI 0)), (0, .ref bS), (1, .int (nI atN)), (2, .int (nI whN)), (3, .ref (ad 0)), (4, .ref (ad 28)), (5, .ref (ad 29)), (6, .ref (ad 30)), (7, .ref (ad 31)), (8, .ref (ad 32)), (9, .int (nI 1))]) hx hb dL_packer_154 hl (by decide) rfl (fun ls hl => ?_)
        exact W.widen (k := 120) (n := 8900) (by omega) (by omega) (hK2 ad n Aq Jq Gq _ _ _ (hn9 (by omega)) hL h09 hG (lv_sub hl [1, 2, 3, 4, 5, 6, 7, 8, 9, 10, 0] rfl))
      · skip
        have c51 : ¬ (9 ≤ kN) := fun z9 => c51 ((nI_leI (by omega) (by omega)).mpr z9)
        refine lv_iload hx hb dL_packer_54 (lv_at hl 9 rfl) ?_
        refine lv_if_eq (tgt := 153) hx hb dL_packer_56 (by decide) (fun c56 => ?_) (fun c56 => ?_)
        · skip
          exact absurd c56 (by decide)
        · skip
          have LLq95 : ∀  (ad : Nat → Nat) (n : Nat) (Az : Nat → Nat → Int32) (Jz : Nat → Nat → Int64) (Gz : Nat → Nat → Int) (hLz : LI n Az Jz Gz) (hJz : Jz 29 = Jz 3) (h09z : Gz 28 9 = 0) (hn0z : n ≠ 0) (H : Heap) (locs : List Loc) (ls : Array Slot), gH D base sM ad (33 + 2 * n) (gw cy ad n Az Jz) H locs → lv_has ls 13 [(0, .ref bS), (1, .int (nI atN)), (2, .int (nI whN)), (3, .ref (ad 0)), (4, .ref (ad 28)), (5, .ref (ad 29)), (6, .ref (ad 30)), (7, .ref (ad 31)), (8, .ref (ad 32)), (9, .int (nI 1)), (10, .int (nI kN))] → W pM l eM ({ frames := 11, cells := 12700, slots := 86000, locals := 300 } : Room) sM mM aM bM methM cM H locs (40 + 7 * kN + 7) (8400 + 40 * kN + 40) (QQ) (F0 mM 95 ls [.int (nI 1)]) := by
            intro ad n Az Jz Gz hLz hJz h09z hn0z H locs ls hG hl
            refine lv_if_eq (tgt := 144) hx hb dL_packer_95 (by decide) (fun c95 => ?_) (fun c95 => ?_)
            · skip
              exact absurd c95 (by decide)
            · skip
              refine lv_aload_n hx hb dL_packer_98 rfl (lv_at hl 3 rfl) ?_
              refine g_callV (As := []) (rest := []) (r := (RX9, TX9, 6)) ⟨hx, hb, hml, hown, hts⟩ hE hG (cX9_spareC l D cy base ad n Az Jz Gz n (by first | assumption | omega) hLz.1) (cwV 0 hts gL_packer_X9_spare rfl rfl rfl (by decide +kernel) ⟨Nat.le_of_ble_eq_true rfl, Nat.le_of_ble_eq_true rfl⟩) (by omega) rfl rfl rfl hl.1 rfl (Nat.le_of_ble_eq_true rfl) dL_packer_99 ⟨(by show 40 + 7 * kN + 7 ≤ 12700; omega), (by show 8400 + 40 * kN + 40 ≤ 86000; omega)⟩ (fun v_ A99 J99 H locs hp hG => ?_)
              obtain ⟨rfl, rfl, rfl⟩ := hp
              refine W.eq (g2 := F0 mM 102 ls [.int (zI (mSpare Gz 192))]) rfl ?_
              have hnc0 := nCnt_le (lnat (Jz 29 0)) 64
              have hnc1 := nCnt_le (lnat (Jz 29 1)) 64
              have hnc2 := nCnt_le (lnat (Jz 29 2)) 64
              have hnc3 := nCnt_le (lnat (Jz 29 3)) 64
              have hsp := spare_sum hLz hJz
              refine lv_sipush (v := nI 192) hx hb dL_packer_102 (by decide) ?_
              refine lv_aload hx hb dL_packer_105 (lv_at hl 5 rfl) ?_
              refine lv_iconst (v := nI 0) hx hb dL_packer_107 (by decide) ?_
              refine g_lald hx hb hE hG (k := 29) (by omega) rfl 0 (rfl) (by omega) (by omega) dL_packer_108 ?_
              refine g_callS (As := [.long (Jz 29 0)]) (rest := [.int (nI 192), .int (zI (mSpare Gz 192))]) ⟨hx, hb, hml, hown, hts⟩ hE hG (cL_manyC l D cy base ad n Az Jz (Jz 29 0)) (va_cwS 1 hts gL_packer_L_many rfl rfl rfl (by decide +kernel) ⟨Nat.le_of_ble_eq_true rfl, Nat.le_of_ble_eq_true rfl⟩) rfl hl.1 rfl (Nat.le_of_ble_eq_true rfl) dL_packer_109 ⟨(by show 40 + 7 * kN + 7 ≤ 12700; omega), (by show 8400 + 40 * kN + 40 ≤ 86000; omega)⟩ (fun v_ A109 J109 H locs hp hG => ?_)
              obtain ⟨rfl, rfl, rfl⟩ := hp
              refine W.eq (g2 := F0 mM 112 ls [.int (nI (nCnt (lnat (Jz 29 0)) 64)), .int (nI 192), .int (zI (mSpare Gz 192))]) rfl ?_
              refine lv_isub hx hb dL_packer_112 ?_
              refine g_top (y := zI (192 - ((nCnt (lnat (Jz 29 0)) 64 : Nat) : Int))) (zI_sub_nn _ _) ?_
              refine lv_aload hx hb dL_packer_113 (lv_at hl 5 rfl) ?_
              refine lv_iconst (v := nI 1) hx hb dL_packer_115 (by decide) ?_
              refine g_lald hx hb hE hG (k := 29) (by omega) rfl 1 (rfl) (by omega) (by omega) dL_packer_116 ?_
              refine g_callS (As := [.long (Jz 29 1)]) (rest := [.int (zI (192 - ((nCnt (lnat (Jz 29 0)) 64 : Nat) : Int))), .int (zI (mSpare Gz 192))]) ⟨hx, hb, hml, hown, hts⟩ hE hG (cL_manyC l D cy base ad n Az Jz (Jz 29 1)) (va_cwS 1 hts gL_packer_L_many rfl rfl rfl (by decide +kernel) ⟨Nat.le_of_ble_eq_true rfl, Nat.le_of_ble_eq_true rfl⟩) rfl hl.1 rfl (Nat.le_of_ble_eq_true rfl) dL_packer_117 ⟨(by show 40 + 7 * kN + 7 ≤ 12700; omega), (by show 8400 + 40 * kN + 40 ≤ 86000; omega)⟩ (fun v_ A117 J117 H locs hp hG => ?_)
              obtain ⟨rfl, rfl, rfl⟩ := hp
              refine W.eq (g2 := F0 mM 120 ls [.int (nI (nCnt (lnat (Jz 29 1)) 64)), .int (zI (192 - ((nCnt (lnat (Jz 29 0)) 64 : Nat) : Int))), .int (zI (mSpare Gz 192))]) rfl ?_
              refine lv_isub hx hb dL_packer_120 ?_
              refine g_top (y := zI ((192 - ((nCnt (lnat (Jz 29 0)) 64 : Nat) : Int)) - ((nCnt (lnat (Jz 29 1)) 64 : Nat) : Int))) (zI_sub_in _ _) ?_
              refine lv_aload hx hb dL_packer_121 (lv_at hl 5 rfl) ?_
              refine lv_iconst (v := nI 2) hx hb dL_packer_123 (by decide) ?_
              refine g_lald hx hb hE hG (k := 29) (by omega) rfl 2 (rfl) (by omega) (by omega) dL_packer_124 ?_
              refine g_callS (As := [.long (Jz 29 2)]) (rest := [.int (zI ((192 - ((nCnt (lnat (Jz 29 0)) 64 : Nat) : Int)) - ((nCnt (lnat (Jz 29 1)) 64 : Nat) : Int))), .int (zI (mSpare Gz 192))]) ⟨hx, hb, hml, hown, hts⟩ hE hG (cL_manyC l D cy base ad n Az Jz (Jz 29 2)) (va_cwS 1 hts gL_packer_L_many rfl rfl rfl (by decide +kernel) ⟨Nat.le_of_ble_eq_true rfl, Nat.le_of_ble_eq_true rfl⟩) rfl hl.1 rfl (Nat.le_of_ble_eq_true rfl) dL_packer_125 ⟨(by show 40 + 7 * kN + 7 ≤ 12700; omega), (by show 8400 + 40 * kN + 40 ≤ 86000; omega)⟩ (fun v_ A125 J125 H locs hp hG => ?_)
              obtain ⟨rfl, rfl, rfl⟩ := hp
              refine W.eq (g2 := F0 mM 128 ls [.int (nI (nCnt (lnat (Jz 29 2)) 64)), .int (zI ((192 - ((nCnt (lnat (Jz 29 0)) 64 : Nat) : Int)) - ((nCnt (lnat (Jz 29 1)) 64 : Nat) : Int))), .int (zI (mSpare Gz 192))]) rfl ?_
              refine lv_isub hx hb dL_packer_128 ?_
              refine g_top (y := zI (((192 - ((nCnt (lnat (Jz 29 0)) 64 : Nat) : Int)) - ((nCnt (lnat (Jz 29 1)) 64 : Nat) : Int)) - ((nCnt (lnat (Jz 29 2)) 64 : Nat) : Int))) (zI_sub_in _ _) ?_
              refine lv_aload hx hb dL_packer_129 (lv_at hl 5 rfl) ?_
              refine lv_iconst (v := nI 3) hx hb dL_packer_131 (by decide) ?_
              refine g_lald hx hb hE hG (k := 29) (by omega) rfl 3 (rfl) (by omega) (by omega) dL_packer_132 ?_
              refine g_callS (As := [.long (Jz 29 3)]) (rest := [.int (zI (((192 - ((nCnt (lnat (Jz 29 0)) 64 : Nat) : Int)) - ((nCnt (lnat (Jz 29 1)) 64 : Nat) : Int)) - ((nCnt (lnat (Jz 29 2)) 64 : Nat) : Int))), .int (zI (mSpare Gz 192))]) ⟨hx, hb, hml, hown, hts⟩ hE hG (cL_manyC l D cy base ad n Az Jz (Jz 29 3)) (va_cwS 1 hts gL_packer_L_many rfl rfl rfl (by decide +kernel) ⟨Nat.le_of_ble_eq_true rfl, Nat.le_of_ble_eq_true rfl⟩) rfl hl.1 rfl (Nat.le_of_ble_eq_true rfl) dL_packer_133 ⟨(by show 40 + 7 * kN + 7 ≤ 12700; omega), (by show 8400 + 40 * kN + 40 ≤ 86000; omega)⟩ (fun v_ A133 J133 H locs hp hG => ?_)
              obtain ⟨rfl, rfl, rfl⟩ := hp
              refine W.eq (g2 := F0 mM 136 ls [.int (nI (nCnt (lnat (Jz 29 3)) 64)), .int (zI (((192 - ((nCnt (lnat (Jz 29 0)) 64 : Nat) : Int)) - ((nCnt (lnat (Jz 29 1)) 64 : Nat) : Int)) - ((nCnt (lnat (Jz 29 2)) 64 : Nat) : Int))), .int (zI (mSpare Gz 192))]) rfl ?_
              refine lv_isub hx hb dL_packer_136 ?_
              refine g_top (y := zI ((((192 - ((nCnt (lnat (Jz 29 0)) 64 : Nat) : Int)) - ((nCnt (lnat (Jz 29 1)) 64 : Nat) : Int)) - ((nCnt (lnat (Jz 29 2)) 64 : Nat) : Int)) - ((nCnt (lnat (Jz 29 3)) 64 : Nat) : Int))) (zI_sub_in _ _) ?_
              refine lv_icmp_ne (tgt := 144) hx hb dL_packer_137 (by decide) (fun c137 => ?_) (fun c137 => ?_)
              · skip
                have c137 : ¬ ((mSpare Gz 192) = ((((192 - ((nCnt (lnat (Jz 29 0)) 64 : Nat) : Int)) - ((nCnt (lnat (Jz 29 1)) 64 : Nat) : Int)) - ((nCnt (lnat (Jz 29 2)) 64 : Nat) : Int)) - ((nCnt (lnat (Jz 29 3)) 64 : Nat) : Int))) := fun z9 => c137 ((cmp_eq (zI_toInt (by omega) (by omega)) (zI_toInt (by omega) (by omega))).mpr z9)
                exfalso; omega
              · skip
                have c137 : (mSpare Gz 192) = ((((192 - ((nCnt (lnat (Jz 29 0)) 64 : Nat) : Int)) - ((nCnt (lnat (Jz 29 1)) 64 : Nat) : Int)) - ((nCnt (lnat (Jz 29 2)) 64 : Nat) : Int)) - ((nCnt (lnat (Jz 29 3)) 64 : Nat) : Int)) := (cmp_eq (zI_toInt (by omega) (by omega)) (zI_toInt (by omega) (by omega))).mp c137
                refine lv_iconst (v := nI 1) hx hb dL_packer_140 (by decide) ?_
                refine lv_goto (tgt := 145) hx hb dL_packer_141 (by decide) ?_
                refine lv_istore (lv' := [(9, .int (nI 1)), (0, .ref bS), (1, .int (nI atN)), (2, .int (nI whN)), (3, .ref (ad 0)), (4, .ref (ad 28)), (5, .ref (ad 29)), (6, .ref (ad 30)), (7, .ref (ad 31)), (8, .ref (ad 32)), (10, .int (nI kN))]) hx hb dL_packer_145 hl (by decide) rfl (fun ls hl => ?_)
                refine lv_iinc (v := nI (kN + 1)) (lv' := [(10, .int (nI (kN + 1))), (9, .int (nI 1)), (0, .ref bS), (1, .int (nI atN)), (2, .int (nI whN)), (3, .ref (ad 0)), (4, .ref (ad 28)), (5, .ref (ad 29)), (6, .ref (ad 30)), (7, .ref (ad 31)), (8, .ref (ad 32))]) hx hb dL_packer_147 hl (k := 10) rfl (by rw [show (Int32.ofInt 1 : Int32) = nI 1 from rfl, nI_add]) (by decide) rfl (fun ls hl => ?_)
                refine lv_goto (tgt := 47) hx hb dL_packer_150 (by decide) ?_
                refine W.widen (k := 40 + 7 * (kN + 1)) (n := 8400 + 40 * (kN + 1)) (by omega) (by omega) ?_
                exact ihq47 ad n Az Jz Gz (kN + 1) (by omega) hLz h09z hJz (fun _ => hn0z) (by omega) _ _ _ hG (lv_sub hl [2, 3, 4, 5, 6, 7, 8, 9, 10, 1, 0] rfl)
          refine lv_aload_n hx hb dL_packer_59 rfl (lv_at hl 3 rfl) ?_
          refine lv_aload_n hx hb dL_packer_60 rfl (lv_at hl 0 rfl) ?_
          refine lv_iload_n hx hb dL_packer_61 rfl (lv_at hl 1 rfl) ?_
          refine lv_iconst (v := nI 2) hx hb dL_packer_62 (by decide) ?_
          refine lv_iload hx hb dL_packer_63 (lv_at hl 10 rfl) ?_
          refine lv_imul hx hb dL_packer_65 ?_
          refine g_top (y := nI (2 * kN)) (by rw [pk_mul]) ?_
          refine lv_iadd hx hb dL_packer_66 ?_
          refine g_top (y := nI (atN + (2 * kN))) (by rw [nI_add]) ?_
          refine lv_ldc (v := 1073741824) hx hb hown (hts (.constant RL 139 (1073741824)) (List.mem_of_getElem? (i := 6) rfl)) dL_packer_67 ?_
          refine g_top (y := nI 1073741824) (by decide) ?_
          refine gS_callS (As := [.ref bS, .int (nI (atN + (2 * kN))), .int (nI 1073741824)]) (rest := [.ref (ad 0)]) ⟨hx, hb, hml, hown, hts⟩ hE hXS hG (cL_drawC l D cy base bS LS xs ad n Aq Jq (atN + (2 * kN)) 1073741824 (by omega) (by omega)) (va_cwS 3 hts gL_packer_L_draw rfl rfl rfl (by decide +kernel) ⟨(Nat.le_of_ble_eq_true rfl), (Nat.le_of_ble_eq_true rfl)⟩) rfl hl.1 rfl (Nat.le_of_ble_eq_true rfl) dL_packer_69 ⟨(by show 40 + 7 * kN ≤ 12700; omega), (by show 8400 + 40 * kN ≤ 86000; omega)⟩ (fun v_ A_ J_ H locs hp hG => ?_)
          obtain ⟨q69, rfl, hq69, rfl, rfl⟩ := hp
          refine W.eq (g2 := F0 mM 72 ls [.int (nI q69), .ref (ad 0)]) rfl ?_
          refine lv_aload_n hx hb dL_packer_72 rfl (lv_at hl 0 rfl) ?_
          refine lv_iload_n hx hb dL_packer_73 rfl (lv_at hl 1 rfl) ?_
          refine lv_iconst (v := nI 2) hx hb dL_packer_74 (by decide) ?_
          refine lv_iload hx hb dL_packer_75 (lv_at hl 10 rfl) ?_
          refine lv_imul hx hb dL_packer_77 ?_
          refine g_top (y := nI (2 * kN)) (by rw [pk_mul]) ?_
          refine lv_iadd hx hb dL_packer_78 ?_
          refine g_top (y := nI (atN + (2 * kN))) (by rw [nI_add]) ?_
          refine lv_iconst (v := nI 1) hx hb dL_packer_79 (by decide) ?_
          refine lv_iadd hx hb dL_packer_80 ?_
          refine g_top (y := nI (atN + (2 * kN) + 1)) (by rw [nI_add]) ?_
          refine lv_ldc (v := 1073741824) hx hb hown (hts (.constant RL 139 (1073741824)) (List.mem_of_getElem? (i := 6) rfl)) dL_packer_81 ?_
          refine g_top (y := nI 1073741824) (by decide) ?_
          refine gS_callS (As := [.ref bS, .int (nI (atN + (2 * kN) + 1)), .int (nI 1073741824)]) (rest := [.int (nI q69), .ref (ad 0)]) ⟨hx, hb, hml, hown, hts⟩ hE hXS hG (cL_drawC l D cy base bS LS xs ad n Aq Jq (atN + (2 * kN) + 1) 1073741824 (by omega) (by omega)) (va_cwS 3 hts gL_packer_L_draw rfl rfl rfl (by decide +kernel) ⟨(Nat.le_of_ble_eq_true rfl), (Nat.le_of_ble_eq_true rfl)⟩) rfl hl.1 rfl (Nat.le_of_ble_eq_true rfl) dL_packer_83 ⟨(by show 40 + 7 * kN ≤ 12700; omega), (by show 8400 + 40 * kN ≤ 86000; omega)⟩ (fun v_ A_ J_ H locs hp hG => ?_)
          obtain ⟨q83, rfl, hq83, rfl, rfl⟩ := hp
          refine W.eq (g2 := F0 mM 86 ls [.int (nI q83), .int (nI q69), .ref (ad 0)]) rfl ?_
          refine lv_aload hx hb dL_packer_86 (lv_at hl 4 rfl) ?_
          refine lv_aload hx hb dL_packer_88 (lv_at hl 5 rfl) ?_
          refine lv_aload hx hb dL_packer_90 (lv_at hl 7 rfl) ?_
          refine gR_callS (As := [.ref (ad 0), .int (nI q69), .int (nI q83), .ref (ad 28), .ref (ad 29), .ref (ad 31)]) (rest := []) ⟨hx, hb, hml, hown, hts⟩ hE hG (cL_pointsC l D cy base ad n Aq Jq Gq n q69 q83 hst rfl hL (by omega) (by omega) h09 hJ9) (va_cwS 6 hts gL_packer_L_points rfl rfl rfl (by decide +kernel) ⟨(Nat.le_of_ble_eq_true rfl), (Nat.le_of_ble_eq_true rfl)⟩) rfl hl.1 rfl (Nat.le_of_ble_eq_true rfl) dL_packer_92 ⟨(by show 40 + 7 * kN + 7 ≤ 12700; omega), (by show 8400 + 40 * kN + 40 ≤ 86000; omega)⟩ (fun v_ ad1 N1 w1 H locs hp hG => ?_)
          obtain ⟨rfl, n1, A1, J1, G1, had, rfl, rfl, hL1, hJ1, h091, hn1⟩ := PL_points_all hp hL hJ9 h09
          refine W.eq (g2 := F0 mM 95 ls [.int (nI 1)]) rfl ?_
          exact LLq95 ad1 n1 A1 J1 G1 hL1 hJ1 h091 hn1 _ _ _ hG (by rw [had 0 (by omega), had 28 (by omega), had 29 (by omega), had 30 (by omega), had 31 (by omega), had 32 (by omega)]; exact lv_sub hl [0, 1, 2, 3, 4, 5, 6, 7, 8, 9, 10] rfl)
  refine W.widen (k := 40 + 7 * 0) (n := 8400 + 40 * 0) (by omega) (by omega) ?_
  exact LLq47 _ ad n A J G 0 (by omega) hL0 h090 hJ0 (fun z9 => absurd rfl z9) (Nat.lt_succ_self _) _ _ _ hG (lv_sub hl [0, 1, 2, 3, 4, 5, 6, 7, 8, 9, 10] rfl)
